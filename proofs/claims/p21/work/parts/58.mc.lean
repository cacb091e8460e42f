def mf_Mo_beat_1_j25 (v : fw_V)   : fw_V :=
  let v44 := mf_Mo_send v (12 : Int32) (v 13 0 1) (v 21 0 1) (v 15 0 1)
  let v45 := fw_up v44 21 0 (1) (((v44 21 0 1) + (1 : Int32)) &&& (255 : Int32))
  v45
def mf_Mo_beat_1_j24 (v : fw_V)   : fw_V :=
  let v42 := fw_up v 9 0 (5) (0 : Int32)
  mf_Mo_beat_1_j25 v42
def mf_Mo_beat_1_j23 (v : fw_V)   : fw_V :=
  mf_Mo_beat_1_j24 v
def mf_Mo_beat_1_j22 (v : fw_V)   : fw_V :=
  mf_Mo_beat_1_j23 v
def mf_Mo_beat_1_j27 (v : fw_V)  (x90 : Int32) : fw_V :=
  let v50 := fw_up v 9 0 (5) x90
  mf_Mo_beat_1_j25 v50
def mf_Mo_beat_1_j26 (v : fw_V)   : fw_V :=
  mf_Mo_beat_1_j27 v ((v 26 0 11))
def mf_Mo_beat_1_j21 (v : fw_V)   : fw_V :=
  if (v 24 0 5) < (0 : Int32) then
    mf_Mo_beat_1_j22 v
  else
    if (((v 16 0 1) >>> ((2 : Int32) &&& 31)) &&& (1 : Int32)) = (0 : Int32) then
      if (v 2 0 (v 24 0 5).toNatClampNeg) ≤ (1 : Int32) then
        mf_Mo_beat_1_j22 v
      else
        mf_Mo_beat_1_j26 v
    else
      mf_Mo_beat_1_j22 v
def mf_Mo_beat_1_j20 (v : fw_V)   : fw_V :=
  let v37 := fw_up v 9 0 (4) (0 : Int32)
  mf_Mo_beat_1_j21 v37
def mf_Mo_beat_1_j19 (v : fw_V)   : fw_V :=
  mf_Mo_beat_1_j20 v
def mf_Mo_beat_1_j18 (v : fw_V)   : fw_V :=
  mf_Mo_beat_1_j19 v
def mf_Mo_beat_1_j29 (v : fw_V)  (x90 : Int32) : fw_V :=
  let v55 := fw_up v 9 0 (4) x90
  mf_Mo_beat_1_j21 v55
def mf_Mo_beat_1_j28 (v : fw_V)   : fw_V :=
  mf_Mo_beat_1_j29 v ((v 26 0 10))
def mf_Mo_beat_1_j17 (v : fw_V)   : fw_V :=
  if (v 24 0 5) < (0 : Int32) then
    mf_Mo_beat_1_j18 v
  else
    if (((v 16 0 1) >>> ((2 : Int32) &&& 31)) &&& (1 : Int32)) = (0 : Int32) then
      if (v 2 0 (v 24 0 5).toNatClampNeg) ≤ (0 : Int32) then
        mf_Mo_beat_1_j18 v
      else
        mf_Mo_beat_1_j28 v
    else
      mf_Mo_beat_1_j18 v
def mf_Mo_beat_1_j16 (v : fw_V)   : fw_V :=
  let v32 := fw_up v 9 0 (3) (0 : Int32)
  mf_Mo_beat_1_j17 v32
def mf_Mo_beat_1_j15 (v : fw_V)   : fw_V :=
  mf_Mo_beat_1_j16 v
def mf_Mo_beat_1_j14 (v : fw_V)   : fw_V :=
  mf_Mo_beat_1_j15 v
def mf_Mo_beat_1_j31 (v : fw_V)  (x90 : Int32) : fw_V :=
  let v60 := fw_up v 9 0 (3) x90
  mf_Mo_beat_1_j17 v60
def mf_Mo_beat_1_j30 (v : fw_V)   : fw_V :=
  mf_Mo_beat_1_j31 v ((v 26 0 9))
def mf_Mo_beat_1_j13 (v : fw_V)   : fw_V :=
  if (v 24 0 4) < (0 : Int32) then
    mf_Mo_beat_1_j14 v
  else
    if (((v 16 0 1) >>> ((1 : Int32) &&& 31)) &&& (1 : Int32)) = (0 : Int32) then
      if (v 2 0 (v 24 0 4).toNatClampNeg) ≤ (1 : Int32) then
        mf_Mo_beat_1_j14 v
      else
        mf_Mo_beat_1_j30 v
    else
      mf_Mo_beat_1_j14 v
def mf_Mo_beat_1_j12 (v : fw_V)   : fw_V :=
  let v27 := fw_up v 9 0 (2) (0 : Int32)
  mf_Mo_beat_1_j13 v27
def mf_Mo_beat_1_j11 (v : fw_V)   : fw_V :=
  mf_Mo_beat_1_j12 v
def mf_Mo_beat_1_j10 (v : fw_V)   : fw_V :=
  mf_Mo_beat_1_j11 v
def mf_Mo_beat_1_j33 (v : fw_V)  (x90 : Int32) : fw_V :=
  let v65 := fw_up v 9 0 (2) x90
  mf_Mo_beat_1_j13 v65
def mf_Mo_beat_1_j32 (v : fw_V)   : fw_V :=
  mf_Mo_beat_1_j33 v ((v 26 0 8))
def mf_Mo_beat_1_j9 (v : fw_V)   : fw_V :=
  if (v 24 0 4) < (0 : Int32) then
    mf_Mo_beat_1_j10 v
  else
    if (((v 16 0 1) >>> ((1 : Int32) &&& 31)) &&& (1 : Int32)) = (0 : Int32) then
      if (v 2 0 (v 24 0 4).toNatClampNeg) ≤ (0 : Int32) then
        mf_Mo_beat_1_j10 v
      else
        mf_Mo_beat_1_j32 v
    else
      mf_Mo_beat_1_j10 v
def mf_Mo_beat_1_j8 (v : fw_V)   : fw_V :=
  let v22 := fw_up v 9 0 (1) (0 : Int32)
  mf_Mo_beat_1_j9 v22
def mf_Mo_beat_1_j7 (v : fw_V)   : fw_V :=
  mf_Mo_beat_1_j8 v
def mf_Mo_beat_1_j6 (v : fw_V)   : fw_V :=
  mf_Mo_beat_1_j7 v
def mf_Mo_beat_1_j35 (v : fw_V)  (x90 : Int32) : fw_V :=
  let v70 := fw_up v 9 0 (1) x90
  mf_Mo_beat_1_j9 v70
def mf_Mo_beat_1_j34 (v : fw_V)   : fw_V :=
  mf_Mo_beat_1_j35 v ((v 26 0 7))
def mf_Mo_beat_1_j5 (v : fw_V)   : fw_V :=
  if (v 24 0 3) < (0 : Int32) then
    mf_Mo_beat_1_j6 v
  else
    if (((v 16 0 1) >>> ((0 : Int32) &&& 31)) &&& (1 : Int32)) = (0 : Int32) then
      if (v 2 0 (v 24 0 3).toNatClampNeg) ≤ (1 : Int32) then
        mf_Mo_beat_1_j6 v
      else
        mf_Mo_beat_1_j34 v
    else
      mf_Mo_beat_1_j6 v
def mf_Mo_beat_1_j4 (v : fw_V)   : fw_V :=
  let v17 := fw_up v 9 0 (0) (0 : Int32)
  mf_Mo_beat_1_j5 v17
def mf_Mo_beat_1_j3 (v : fw_V)   : fw_V :=
  mf_Mo_beat_1_j4 v
def mf_Mo_beat_1_j2 (v : fw_V)   : fw_V :=
  mf_Mo_beat_1_j3 v
def mf_Mo_beat_1_j37 (v : fw_V)  (x90 : Int32) : fw_V :=
  let v75 := fw_up v 9 0 (0) x90
  mf_Mo_beat_1_j5 v75
def mf_Mo_beat_1_j36 (v : fw_V)   : fw_V :=
  mf_Mo_beat_1_j37 v ((v 26 0 6))
def mf_Mo_beat_1_j1 (v : fw_V)   : fw_V :=
  if (v 24 0 3) < (0 : Int32) then
    mf_Mo_beat_1_j2 v
  else
    if (((v 16 0 1) >>> ((0 : Int32) &&& 31)) &&& (1 : Int32)) = (0 : Int32) then
      if (v 2 0 (v 24 0 3).toNatClampNeg) ≤ (0 : Int32) then
        mf_Mo_beat_1_j2 v
      else
        mf_Mo_beat_1_j36 v
    else
      mf_Mo_beat_1_j2 v
def mf_Mo_beat_1 (v0 : fw_V) : fw_V :=
  if (v0 12 0 1) = (0 : Int32) then
    v0
  else
    let v2 := fw_up v0 18 0 (1) ((v0 18 0 1) + (1 : Int32))
    if (v2 12 0 1) = (6 : Int32) then
      if (v2 18 0 1) = (4 : Int32) then
        let v76 := fw_up v2 0 0 56 ((v2 0 0 56) + (1 : Int32))
        let v77 := mf_Mo_breakOff_1 v76
        v77
      else
        mf_Mo_beat_1_j1 v2
    else
      if (v2 12 0 1) = (5 : Int32) then
        if (v2 18 0 1) = (12 : Int32) then
          let v11 := mf_Mo_breakOff_1 v2
          v11
        else
          v2
      else
        if (v2 18 0 1) = (4 : Int32) then
          let v6 := fw_up v2 19 0 (1) ((v2 19 0 1) + (1 : Int32))
          if (v2 19 0 1) = (2 : Int32) then
            let v9 := mf_Mo_breakOff_1 v6
            v9
          else
            let v8 := mf_Mo_ask_1 v6
            v8
        else
          v2

theorem mca_Mo_beat_1_j25 {v : fw_V} {i k : Nat} : mf_Mo_beat_1_j25 v 10 i k = v 10 i k := by
  unfold mf_Mo_beat_1_j25
  try dsimp only
  all_goals ((repeat' split) <;> simp [fw_up, fw_row, mca_Mo_send])
theorem mca_Mo_beat_1_j24 {v : fw_V} {i k : Nat} : mf_Mo_beat_1_j24 v 10 i k = v 10 i k := by
  unfold mf_Mo_beat_1_j24
  try dsimp only
  all_goals ((repeat' split) <;> simp [fw_up, fw_row, mca_Mo_beat_1_j25])
theorem mca_Mo_beat_1_j23 {v : fw_V} {i k : Nat} : mf_Mo_beat_1_j23 v 10 i k = v 10 i k := by
  unfold mf_Mo_beat_1_j23
  try dsimp only
  all_goals ((repeat' split) <;> simp [fw_up, fw_row, mca_Mo_beat_1_j24])
theorem mca_Mo_beat_1_j22 {v : fw_V} {i k : Nat} : mf_Mo_beat_1_j22 v 10 i k = v 10 i k := by
  unfold mf_Mo_beat_1_j22
  try dsimp only
  all_goals ((repeat' split) <;> simp [fw_up, fw_row, mca_Mo_beat_1_j23])
theorem mca_Mo_beat_1_j27 {v : fw_V} {x90 : Int32} {i k : Nat} : mf_Mo_beat_1_j27 v x90 10 i k = v 10 i k := by
  unfold mf_Mo_beat_1_j27
  try dsimp only
  all_goals ((repeat' split) <;> simp [fw_up, fw_row, mca_Mo_beat_1_j25])
theorem mca_Mo_beat_1_j26 {v : fw_V} {i k : Nat} : mf_Mo_beat_1_j26 v 10 i k = v 10 i k := by
  unfold mf_Mo_beat_1_j26
  try dsimp only
  all_goals ((repeat' split) <;> simp [fw_up, fw_row, mca_Mo_beat_1_j27])
theorem mca_Mo_beat_1_j21 {v : fw_V} {i k : Nat} : mf_Mo_beat_1_j21 v 10 i k = v 10 i k := by
  unfold mf_Mo_beat_1_j21
  try dsimp only
  all_goals ((repeat' split) <;> simp [fw_up, fw_row, mca_Mo_beat_1_j22, mca_Mo_beat_1_j26])
theorem mca_Mo_beat_1_j20 {v : fw_V} {i k : Nat} : mf_Mo_beat_1_j20 v 10 i k = v 10 i k := by
  unfold mf_Mo_beat_1_j20
  try dsimp only
  all_goals ((repeat' split) <;> simp [fw_up, fw_row, mca_Mo_beat_1_j21])
theorem mca_Mo_beat_1_j19 {v : fw_V} {i k : Nat} : mf_Mo_beat_1_j19 v 10 i k = v 10 i k := by
  unfold mf_Mo_beat_1_j19
  try dsimp only
  all_goals ((repeat' split) <;> simp [fw_up, fw_row, mca_Mo_beat_1_j20])
theorem mca_Mo_beat_1_j18 {v : fw_V} {i k : Nat} : mf_Mo_beat_1_j18 v 10 i k = v 10 i k := by
  unfold mf_Mo_beat_1_j18
  try dsimp only
  all_goals ((repeat' split) <;> simp [fw_up, fw_row, mca_Mo_beat_1_j19])
theorem mca_Mo_beat_1_j29 {v : fw_V} {x90 : Int32} {i k : Nat} : mf_Mo_beat_1_j29 v x90 10 i k = v 10 i k := by
  unfold mf_Mo_beat_1_j29
  try dsimp only
  all_goals ((repeat' split) <;> simp [fw_up, fw_row, mca_Mo_beat_1_j21])
theorem mca_Mo_beat_1_j28 {v : fw_V} {i k : Nat} : mf_Mo_beat_1_j28 v 10 i k = v 10 i k := by
  unfold mf_Mo_beat_1_j28
  try dsimp only
  all_goals ((repeat' split) <;> simp [fw_up, fw_row, mca_Mo_beat_1_j29])
theorem mca_Mo_beat_1_j17 {v : fw_V} {i k : Nat} : mf_Mo_beat_1_j17 v 10 i k = v 10 i k := by
  unfold mf_Mo_beat_1_j17
  try dsimp only
  all_goals ((repeat' split) <;> simp [fw_up, fw_row, mca_Mo_beat_1_j18, mca_Mo_beat_1_j28])
theorem mca_Mo_beat_1_j16 {v : fw_V} {i k : Nat} : mf_Mo_beat_1_j16 v 10 i k = v 10 i k := by
  unfold mf_Mo_beat_1_j16
  try dsimp only
  all_goals ((repeat' split) <;> simp [fw_up, fw_row, mca_Mo_beat_1_j17])
theorem mca_Mo_beat_1_j15 {v : fw_V} {i k : Nat} : mf_Mo_beat_1_j15 v 10 i k = v 10 i k := by
  unfold mf_Mo_beat_1_j15
  try dsimp only
  all_goals ((repeat' split) <;> simp [fw_up, fw_row, mca_Mo_beat_1_j16])
theorem mca_Mo_beat_1_j14 {v : fw_V} {i k : Nat} : mf_Mo_beat_1_j14 v 10 i k = v 10 i k := by
  unfold mf_Mo_beat_1_j14
  try dsimp only
  all_goals ((repeat' split) <;> simp [fw_up, fw_row, mca_Mo_beat_1_j15])
theorem mca_Mo_beat_1_j31 {v : fw_V} {x90 : Int32} {i k : Nat} : mf_Mo_beat_1_j31 v x90 10 i k = v 10 i k := by
  unfold mf_Mo_beat_1_j31
  try dsimp only
  all_goals ((repeat' split) <;> simp [fw_up, fw_row, mca_Mo_beat_1_j17])
theorem mca_Mo_beat_1_j30 {v : fw_V} {i k : Nat} : mf_Mo_beat_1_j30 v 10 i k = v 10 i k := by
  unfold mf_Mo_beat_1_j30
  try dsimp only
  all_goals ((repeat' split) <;> simp [fw_up, fw_row, mca_Mo_beat_1_j31])
theorem mca_Mo_beat_1_j13 {v : fw_V} {i k : Nat} : mf_Mo_beat_1_j13 v 10 i k = v 10 i k := by
  unfold mf_Mo_beat_1_j13
  try dsimp only
  all_goals ((repeat' split) <;> simp [fw_up, fw_row, mca_Mo_beat_1_j14, mca_Mo_beat_1_j30])
theorem mca_Mo_beat_1_j12 {v : fw_V} {i k : Nat} : mf_Mo_beat_1_j12 v 10 i k = v 10 i k := by
  unfold mf_Mo_beat_1_j12
  try dsimp only
  all_goals ((repeat' split) <;> simp [fw_up, fw_row, mca_Mo_beat_1_j13])
theorem mca_Mo_beat_1_j11 {v : fw_V} {i k : Nat} : mf_Mo_beat_1_j11 v 10 i k = v 10 i k := by
  unfold mf_Mo_beat_1_j11
  try dsimp only
  all_goals ((repeat' split) <;> simp [fw_up, fw_row, mca_Mo_beat_1_j12])
theorem mca_Mo_beat_1_j10 {v : fw_V} {i k : Nat} : mf_Mo_beat_1_j10 v 10 i k = v 10 i k := by
  unfold mf_Mo_beat_1_j10
  try dsimp only
  all_goals ((repeat' split) <;> simp [fw_up, fw_row, mca_Mo_beat_1_j11])
theorem mca_Mo_beat_1_j33 {v : fw_V} {x90 : Int32} {i k : Nat} : mf_Mo_beat_1_j33 v x90 10 i k = v 10 i k := by
  unfold mf_Mo_beat_1_j33
  try dsimp only
  all_goals ((repeat' split) <;> simp [fw_up, fw_row, mca_Mo_beat_1_j13])
theorem mca_Mo_beat_1_j32 {v : fw_V} {i k : Nat} : mf_Mo_beat_1_j32 v 10 i k = v 10 i k := by
  unfold mf_Mo_beat_1_j32
  try dsimp only
  all_goals ((repeat' split) <;> simp [fw_up, fw_row, mca_Mo_beat_1_j33])
theorem mca_Mo_beat_1_j9 {v : fw_V} {i k : Nat} : mf_Mo_beat_1_j9 v 10 i k = v 10 i k := by
  unfold mf_Mo_beat_1_j9
  try dsimp only
  all_goals ((repeat' split) <;> simp [fw_up, fw_row, mca_Mo_beat_1_j10, mca_Mo_beat_1_j32])
theorem mca_Mo_beat_1_j8 {v : fw_V} {i k : Nat} : mf_Mo_beat_1_j8 v 10 i k = v 10 i k := by
  unfold mf_Mo_beat_1_j8
  try dsimp only
  all_goals ((repeat' split) <;> simp [fw_up, fw_row, mca_Mo_beat_1_j9])
theorem mca_Mo_beat_1_j7 {v : fw_V} {i k : Nat} : mf_Mo_beat_1_j7 v 10 i k = v 10 i k := by
  unfold mf_Mo_beat_1_j7
  try dsimp only
  all_goals ((repeat' split) <;> simp [fw_up, fw_row, mca_Mo_beat_1_j8])
theorem mca_Mo_beat_1_j6 {v : fw_V} {i k : Nat} : mf_Mo_beat_1_j6 v 10 i k = v 10 i k := by
  unfold mf_Mo_beat_1_j6
  try dsimp only
  all_goals ((repeat' split) <;> simp [fw_up, fw_row, mca_Mo_beat_1_j7])
theorem mca_Mo_beat_1_j35 {v : fw_V} {x90 : Int32} {i k : Nat} : mf_Mo_beat_1_j35 v x90 10 i k = v 10 i k := by
  unfold mf_Mo_beat_1_j35
  try dsimp only
  all_goals ((repeat' split) <;> simp [fw_up, fw_row, mca_Mo_beat_1_j9])
theorem mca_Mo_beat_1_j34 {v : fw_V} {i k : Nat} : mf_Mo_beat_1_j34 v 10 i k = v 10 i k := by
  unfold mf_Mo_beat_1_j34
  try dsimp only
  all_goals ((repeat' split) <;> simp [fw_up, fw_row, mca_Mo_beat_1_j35])
theorem mca_Mo_beat_1_j5 {v : fw_V} {i k : Nat} : mf_Mo_beat_1_j5 v 10 i k = v 10 i k := by
  unfold mf_Mo_beat_1_j5
  try dsimp only
  all_goals ((repeat' split) <;> simp [fw_up, fw_row, mca_Mo_beat_1_j6, mca_Mo_beat_1_j34])
theorem mca_Mo_beat_1_j4 {v : fw_V} {i k : Nat} : mf_Mo_beat_1_j4 v 10 i k = v 10 i k := by
  unfold mf_Mo_beat_1_j4
  try dsimp only
  all_goals ((repeat' split) <;> simp [fw_up, fw_row, mca_Mo_beat_1_j5])
theorem mca_Mo_beat_1_j3 {v : fw_V} {i k : Nat} : mf_Mo_beat_1_j3 v 10 i k = v 10 i k := by
  unfold mf_Mo_beat_1_j3
  try dsimp only
  all_goals ((repeat' split) <;> simp [fw_up, fw_row, mca_Mo_beat_1_j4])
theorem mca_Mo_beat_1_j2 {v : fw_V} {i k : Nat} : mf_Mo_beat_1_j2 v 10 i k = v 10 i k := by
  unfold mf_Mo_beat_1_j2
  try dsimp only
  all_goals ((repeat' split) <;> simp [fw_up, fw_row, mca_Mo_beat_1_j3])
theorem mca_Mo_beat_1_j37 {v : fw_V} {x90 : Int32} {i k : Nat} : mf_Mo_beat_1_j37 v x90 10 i k = v 10 i k := by
  unfold mf_Mo_beat_1_j37
  try dsimp only
  all_goals ((repeat' split) <;> simp [fw_up, fw_row, mca_Mo_beat_1_j5])
theorem mca_Mo_beat_1_j36 {v : fw_V} {i k : Nat} : mf_Mo_beat_1_j36 v 10 i k = v 10 i k := by
  unfold mf_Mo_beat_1_j36
  try dsimp only
  all_goals ((repeat' split) <;> simp [fw_up, fw_row, mca_Mo_beat_1_j37])
theorem mca_Mo_beat_1_j1 {v : fw_V} {i k : Nat} : mf_Mo_beat_1_j1 v 10 i k = v 10 i k := by
  unfold mf_Mo_beat_1_j1
  try dsimp only
  all_goals ((repeat' split) <;> simp [fw_up, fw_row, mca_Mo_beat_1_j2, mca_Mo_beat_1_j36])
theorem mca_Mo_beat_1 {v0 : fw_V} {i k : Nat} : mf_Mo_beat_1 v0 10 i k = v0 10 i k := by
  unfold mf_Mo_beat_1
  try dsimp only
  all_goals ((repeat' split) <;> simp [fw_up, fw_row, mca_Mo_breakOff_1, mca_Mo_beat_1_j1, mca_Mo_ask_1])
set_option maxHeartbeats 4000000 in
set_option maxRecDepth 100000 in
theorem mc_Mo_beat_1 (l : Launch) {D : va_G} {cA : Nat → ClassId} {ad : Nat → Nat → Nat} (hD : fw_D mCL ad) {b : Nat} (v0 : fw_V) (hI : mI b v0)   : Met l my_Mo_beat (Cond.code my_Mo_beat mb_Mo_beat 5 none :: vTB) mrm_Mo_beat (fw_Pc vNL D vcls (vtys cA) mCL cA mkd ad v0 [.ref (ad 0 0), .int (1 : Int32)]) (fw_Qv D vcls mCL cA mkd ad (mI b) (mf_Mo_beat_1 v0)) 0 0 (fw_A mCL ad) := by
  refine Met.ofW (cc := mb_Mo_beat) (maxL := 5) (ret := none) (by decide) rfl ?_
  intro p e s m args below meth c s₁ B hml hv
  obtain ⟨rfl, hP, hK, hN⟩ := hv
  have hx := B.exec
  have hb := B.bytes
  have hr := B.returns
  have hts : ∀ w ∈ vTB, w.before ([.ref (ad 0 0), .int (1 : Int32)] : List Value).toArray s = true := fun w h => atoms_spec (ws := (Cond.code my_Mo_beat mb_Mo_beat 5 none :: vTB)) B.pre w (List.mem_cons_of_mem _ h)
  have hown : s.vm.findClass R_Mo = some m.cls := findClass_of_methodNamed B.named
  have hlocks := B.notSynchronized
  have hS : va_S (fw_A mCL ad) s.heap s.heap [] := va_S.rf
  have J25 : ∀ (v : fw_V)  (H : Heap) (locs : List Loc) (ls : Array Slot), mf_Mo_beat_1 v0 = mf_Mo_beat_1_j25 v → mI b v → va_P D vcls (fw_w mCL cA mkd ad v) H → va_S (fw_A mCL ad) s.heap H locs → lv_has ls 5 [(0, .ref (ad 0 0)), (1, .int (1 : Int32)), (2, .int (6 : Int32))] → W p l e (headSpec (Cond.code my_Mo_beat mb_Mo_beat 5 none :: vTB) mrm_Mo_beat).room s m ([.ref (ad 0 0), .int (1 : Int32)] : List Value).toArray below meth c H locs 0 0 (MQ below (fw_Qv D vcls mCL cA mkd ad (mI b) (mf_Mo_beat_1 v0)) ([.ref (ad 0 0), .int (1 : Int32)] : List Value).toArray s 0 0 (fw_A mCL ad)) (F0 m 59 ls []) := by
    intro v  H locs ls hj  hI hP hS hl
    refine lv_iload_n hx hb md_Mo_beat_59 rfl (lv_at hl 2 rfl) ?_
    refine lv_bipush (v := (6 : Int32)) hx hb md_Mo_beat_60 (by decide) ?_
    refine lv_icmp_ge (tgt := 148) hx hb md_Mo_beat_62 (by decide) (fun _ => ?_) (fun c_43 => absurd (by decide) c_43)
    refine lv_aload_n hx hb md_Mo_beat_148 rfl (lv_at hl 0 rfl) ?_
    refine lv_bipush (v := (12 : Int32)) hx hb md_Mo_beat_149 (by decide) ?_
    refine lv_aload_n hx hb md_Mo_beat_151 rfl (lv_at hl 0 rfl) ?_
    refine fw_getr hx hb hts i_Mo hown hK hP (mm_0 (by decide)) (mk_0 0) rfl 12 (by decide) (hts _ L_Mo_44) (fun _ h9 => h9) rfl md_Mo_beat_152 ?_
    refine lv_iload_n hx hb md_Mo_beat_155 rfl (lv_at hl 1 rfl) ?_
    refine fw_iald hx hb hK hP (mm_13 (by decide)) (mk_13 0) 0 rfl (j := 1) (by decide) (fw_inc (by decide)) md_Mo_beat_156 ?_
    refine lv_aload_n hx hb md_Mo_beat_157 rfl (lv_at hl 0 rfl) ?_
    refine fw_getr hx hb hts i_Mo hown hK hP (mm_0 (by decide)) (mk_0 0) rfl 20 (by decide) (hts _ L_Mo_68) (fun _ h9 => h9) rfl md_Mo_beat_158 ?_
    refine lv_iload_n hx hb md_Mo_beat_161 rfl (lv_at hl 1 rfl) ?_
    refine fw_iald hx hb hK hP (mm_21 (by decide)) (mk_21 0) 0 rfl (j := 1) (by decide) (fw_inc (by decide)) md_Mo_beat_162 ?_
    refine lv_aload_n hx hb md_Mo_beat_163 rfl (lv_at hl 0 rfl) ?_
    refine fw_getr hx hb hts i_Mo hown hK hP (mm_0 (by decide)) (mk_0 0) rfl 14 (by decide) (hts _ L_Mo_50) (fun _ h9 => h9) rfl md_Mo_beat_164 ?_
    refine lv_iload_n hx hb md_Mo_beat_167 rfl (lv_at hl 1 rfl) ?_
    refine fw_iald hx hb hK hP (mm_15 (by decide)) (mk_15 0) 0 rfl (j := 1) (by decide) (fw_inc (by decide)) md_Mo_beat_168 ?_
    refine fw_cv (va_runV (As := [.int (12 : Int32), .int (v 13 0 1), .int (v 21 0 1), .int (v 15 0 1)]) (rest := []) ⟨hx, hb, hml, hown, hts⟩ (mc_Mo_send l hD v hI (12 : Int32) (v 13 0 1) (v 21 0 1) (v 15 0 1) (fun q => absurd q (by decide)) (fun q => absurd q (by decide)) (fun q => absurd q (by decide))) (mw_Mo_send hts L_Mo_197 ⟨Nat.le_of_ble_eq_true rfl, Nat.le_of_ble_eq_true rfl⟩) (fw_preV hN hK hP (mm_0 (by decide)) (mk_0 0) rfl) rfl rfl hl.1 rfl (lv_room (Nat.le_of_ble_eq_true rfl)) md_Mo_beat_169 ⟨Nat.le_of_ble_eq_true rfl, Nat.le_of_ble_eq_true rfl⟩) hS (fun v44 H locs ev44 hI hP hS => ?_)
    refine lv_aload_n hx hb md_Mo_beat_172 rfl (lv_at hl 0 rfl) ?_
    refine fw_getr hx hb hts i_Mo hown hK hP (mm_0 (by decide)) (mk_0 0) rfl 20 (by decide) (hts _ L_Mo_68) (fun _ h9 => h9) rfl md_Mo_beat_173 ?_
    refine lv_iload_n hx hb md_Mo_beat_176 rfl (lv_at hl 1 rfl) ?_
    refine lv_aload_n hx hb md_Mo_beat_177 rfl (lv_at hl 0 rfl) ?_
    refine fw_getr hx hb hts i_Mo hown hK hP (mm_0 (by decide)) (mk_0 0) rfl 20 (by decide) (hts _ L_Mo_68) (fun _ h9 => h9) rfl md_Mo_beat_178 ?_
    refine lv_iload_n hx hb md_Mo_beat_181 rfl (lv_at hl 1 rfl) ?_
    refine fw_iald hx hb hK hP (mm_21 (by decide)) (mk_21 0) 0 rfl (j := 1) (by decide) (fw_inc (by decide)) md_Mo_beat_182 ?_
    refine lv_iconst (v := (1 : Int32)) hx hb md_Mo_beat_183 (by decide) ?_
    refine lv_iadd hx hb md_Mo_beat_184 ?_
    refine lv_sipush (v := (255 : Int32)) hx hb md_Mo_beat_185 (by decide) ?_
    refine lv_iand hx hb md_Mo_beat_188 ?_
    refine fw_iast hx hb hK hD hP hS (mm_21 (by decide)) (mk_21 0) 0 rfl (j := 1) (by decide) (fw_inc (by decide)) md_Mo_beat_189 (fun v45 H locs ev45 hP hS => ?_)
    have hI : mI b v45 := by rw [ev45]; exact mI_up hI trivial trivial
    refine lv_goto (tgt := 260) hx hb md_Mo_beat_190 (by decide) ?_
    exact fw_vret hx hb hr hlocks hS hP hI md_Mo_beat_260 (by rw [hj]; subst ev44 ev45; simp only [mf_Mo_beat_1_j25])
  have J24 : ∀ (v : fw_V)  (H : Heap) (locs : List Loc) (ls : Array Slot), mf_Mo_beat_1 v0 = mf_Mo_beat_1_j24 v → mI b v → va_P D vcls (fw_w mCL cA mkd ad v) H → va_S (fw_A mCL ad) s.heap H locs → lv_has ls 5 [(0, .ref (ad 0 0)), (1, .int (1 : Int32)), (2, .int (5 : Int32))] → W p l e (headSpec (Cond.code my_Mo_beat mb_Mo_beat 5 none :: vTB) mrm_Mo_beat).room s m ([.ref (ad 0 0), .int (1 : Int32)] : List Value).toArray below meth c H locs 0 0 (MQ below (fw_Qv D vcls mCL cA mkd ad (mI b) (mf_Mo_beat_1 v0)) ([.ref (ad 0 0), .int (1 : Int32)] : List Value).toArray s 0 0 (fw_A mCL ad)) (F0 m 141 ls [.int (0 : Int32), .int (5 : Int32), .ref (ad 9 0)]) := by
    intro v  H locs ls hj  hI hP hS hl
    refine fw_iast hx hb hK hD hP hS (mm_9 (by decide)) (mk_9 0) 0 rfl (j := 5) (by decide) (fw_inc (by decide)) md_Mo_beat_141 (fun v42 H locs ev42 hP hS => ?_)
    have hI : mI b v42 := by rw [ev42]; exact mI_up hI trivial trivial
    refine lv_iinc (v := (6 : Int32)) (lv' := [(2, .int (6 : Int32)), (0, .ref (ad 0 0)), (1, .int (1 : Int32))]) hx hb md_Mo_beat_142 hl (k := 2) rfl (by decide) (by decide) rfl (fun ls hl => ?_)
    refine lv_goto (tgt := 59) hx hb md_Mo_beat_145 (by decide) ?_
    exact J25 v42  _ _ _ (by rw [hj]; subst ev42; simp only [mf_Mo_beat_1_j24])   hI hP hS (lv_sub hl [1, 2, 0] rfl)
  have J23 : ∀ (v : fw_V)  (H : Heap) (locs : List Loc) (ls : Array Slot), mf_Mo_beat_1 v0 = mf_Mo_beat_1_j23 v → mI b v → va_P D vcls (fw_w mCL cA mkd ad v) H → va_S (fw_A mCL ad) s.heap H locs → lv_has ls 5 [(0, .ref (ad 0 0)), (1, .int (1 : Int32)), (2, .int (5 : Int32))] → W p l e (headSpec (Cond.code my_Mo_beat mb_Mo_beat 5 none :: vTB) mrm_Mo_beat).room s m ([.ref (ad 0 0), .int (1 : Int32)] : List Value).toArray below meth c H locs 0 0 (MQ below (fw_Qv D vcls mCL cA mkd ad (mI b) (mf_Mo_beat_1 v0)) ([.ref (ad 0 0), .int (1 : Int32)] : List Value).toArray s 0 0 (fw_A mCL ad)) (F0 m 114 ls [.int (0 : Int32)]) := by
    intro v  H locs ls hj  hI hP hS hl
    clear J25
    refine lv_istore (lv' := [(4, .int (0 : Int32)), (0, .ref (ad 0 0)), (1, .int (1 : Int32)), (2, .int (5 : Int32))]) hx hb md_Mo_beat_114 hl (by decide) rfl (fun ls hl => ?_)
    refine lv_aload_n hx hb md_Mo_beat_116 rfl (lv_at hl 1 rfl) ?_
    refine fw_getr hx hb hts i_Mo hown hK hP (mm_0 (by decide)) (mk_0 0) rfl 8 (by decide) (hts _ L_Mo_35) (fun _ h9 => h9) rfl md_Mo_beat_117 ?_
    refine lv_iload_n hx hb md_Mo_beat_120 rfl (lv_at hl 3 rfl) ?_
    refine lv_iload hx hb md_Mo_beat_121 (lv_at hl 0 rfl) ?_
    refine lv_if_eq (tgt := 140) hx hb md_Mo_beat_123 (by decide) (fun _ => ?_) (fun c_41 => absurd (by decide) c_41)
    refine lv_iconst (v := (0 : Int32)) hx hb md_Mo_beat_140 (by decide) ?_
    exact J24 v  _ _ _ (by rw [hj]; simp only [mf_Mo_beat_1_j23])   hI hP hS (lv_sub hl [1, 2, 3] rfl)
  have J22 : ∀ (v : fw_V)  (H : Heap) (locs : List Loc) (ls : Array Slot), mf_Mo_beat_1 v0 = mf_Mo_beat_1_j22 v → mI b v → va_P D vcls (fw_w mCL cA mkd ad v) H → va_S (fw_A mCL ad) s.heap H locs → lv_has ls 5 [(0, .ref (ad 0 0)), (1, .int (1 : Int32)), (2, .int (5 : Int32))] → W p l e (headSpec (Cond.code my_Mo_beat mb_Mo_beat 5 none :: vTB) mrm_Mo_beat).room s m ([.ref (ad 0 0), .int (1 : Int32)] : List Value).toArray below meth c H locs 0 0 (MQ below (fw_Qv D vcls mCL cA mkd ad (mI b) (mf_Mo_beat_1 v0)) ([.ref (ad 0 0), .int (1 : Int32)] : List Value).toArray s 0 0 (fw_A mCL ad)) (F0 m 113 ls []) := by
    intro v  H locs ls hj  hI hP hS hl
    clear J25 J24
    refine lv_iconst (v := (0 : Int32)) hx hb md_Mo_beat_113 (by decide) ?_
    exact J23 v  _ _ _ (by rw [hj]; simp only [mf_Mo_beat_1_j22])   hI hP hS (lv_sub hl [0, 1, 2] rfl)
  have J27 : ∀ (v : fw_V) (x90 : Int32) (H : Heap) (locs : List Loc) (ls : Array Slot), mf_Mo_beat_1 v0 = mf_Mo_beat_1_j27 v x90 → mI b v → va_P D vcls (fw_w mCL cA mkd ad v) H → va_S (fw_A mCL ad) s.heap H locs → lv_has ls 5 [(0, .ref (ad 0 0)), (1, .int (1 : Int32)), (2, .int (5 : Int32))] → W p l e (headSpec (Cond.code my_Mo_beat mb_Mo_beat 5 none :: vTB) mrm_Mo_beat).room s m ([.ref (ad 0 0), .int (1 : Int32)] : List Value).toArray below meth c H locs 0 0 (MQ below (fw_Qv D vcls mCL cA mkd ad (mI b) (mf_Mo_beat_1 v0)) ([.ref (ad 0 0), .int (1 : Int32)] : List Value).toArray s 0 0 (fw_A mCL ad)) (F0 m 141 ls [.int x90, .int (5 : Int32), .ref (ad 9 0)]) := by
    intro v x90 H locs ls hj  hI hP hS hl
    clear J24 J23 J22
    refine fw_iast hx hb hK hD hP hS (mm_9 (by decide)) (mk_9 0) 0 rfl (j := 5) (by decide) (fw_inc (by decide)) md_Mo_beat_141 (fun v50 H locs ev50 hP hS => ?_)
    have hI : mI b v50 := by rw [ev50]; exact mI_up hI trivial trivial
    refine lv_iinc (v := (6 : Int32)) (lv' := [(2, .int (6 : Int32)), (0, .ref (ad 0 0)), (1, .int (1 : Int32))]) hx hb md_Mo_beat_142 hl (k := 2) rfl (by decide) (by decide) rfl (fun ls hl => ?_)
    refine lv_goto (tgt := 59) hx hb md_Mo_beat_145 (by decide) ?_
    exact J25 v50  _ _ _ (by rw [hj]; subst ev50; simp only [mf_Mo_beat_1_j27])   hI hP hS (lv_sub hl [1, 2, 0] rfl)
  have J26 : ∀ (v : fw_V)  (H : Heap) (locs : List Loc) (ls : Array Slot), mf_Mo_beat_1 v0 = mf_Mo_beat_1_j26 v → mI b v → va_P D vcls (fw_w mCL cA mkd ad v) H → va_S (fw_A mCL ad) s.heap H locs → lv_has ls 5 [(0, .ref (ad 0 0)), (1, .int (1 : Int32)), (2, .int (5 : Int32))] → W p l e (headSpec (Cond.code my_Mo_beat mb_Mo_beat 5 none :: vTB) mrm_Mo_beat).room s m ([.ref (ad 0 0), .int (1 : Int32)] : List Value).toArray below meth c H locs 0 0 (MQ below (fw_Qv D vcls mCL cA mkd ad (mI b) (mf_Mo_beat_1 v0)) ([.ref (ad 0 0), .int (1 : Int32)] : List Value).toArray s 0 0 (fw_A mCL ad)) (F0 m 114 ls [.int (1 : Int32)]) := by
    intro v  H locs ls hj  hI hP hS hl
    clear J25 J24 J23 J22
    refine lv_istore (lv' := [(4, .int (1 : Int32)), (0, .ref (ad 0 0)), (1, .int (1 : Int32)), (2, .int (5 : Int32))]) hx hb md_Mo_beat_114 hl (by decide) rfl (fun ls hl => ?_)
    refine lv_aload_n hx hb md_Mo_beat_116 rfl (lv_at hl 1 rfl) ?_
    refine fw_getr hx hb hts i_Mo hown hK hP (mm_0 (by decide)) (mk_0 0) rfl 8 (by decide) (hts _ L_Mo_35) (fun _ h9 => h9) rfl md_Mo_beat_117 ?_
    refine lv_iload_n hx hb md_Mo_beat_120 rfl (lv_at hl 3 rfl) ?_
    refine lv_iload hx hb md_Mo_beat_121 (lv_at hl 0 rfl) ?_
    refine lv_if_eq (tgt := 140) hx hb md_Mo_beat_123 (by decide) (fun c_49 => absurd c_49 (by decide)) (fun _ => ?_)
    refine lv_aload_n hx hb md_Mo_beat_126 rfl (lv_at hl 1 rfl) ?_
    refine fw_getr hx hb hts i_Mo hown hK hP (mm_0 (by decide)) (mk_0 0) rfl 25 (by decide) (hts _ L_Mo_83) (fun _ h9 => h9) rfl md_Mo_beat_127 ?_
    refine lv_bipush (v := (6 : Int32)) hx hb md_Mo_beat_130 (by decide) ?_
    refine lv_iload_n hx hb md_Mo_beat_132 rfl (lv_at hl 2 rfl) ?_
    refine lv_imul hx hb md_Mo_beat_133 ?_
    refine fw_top (y := (6 : Int32)) (by decide) ?_
    refine lv_iload_n hx hb md_Mo_beat_134 rfl (lv_at hl 3 rfl) ?_
    refine lv_iadd hx hb md_Mo_beat_135 ?_
    refine fw_top (y := (11 : Int32)) (by decide) ?_
    refine fw_iald hx hb hK hP (mm_26 (by decide)) (mk_26 0) 0 rfl (j := 11) (by decide) (fw_inc (by decide)) md_Mo_beat_136 ?_
    refine lv_goto (tgt := 141) hx hb md_Mo_beat_137 (by decide) ?_
    exact J27 v ((v 26 0 11)) _ _ _ (by rw [hj]; simp only [mf_Mo_beat_1_j26])   hI hP hS (lv_sub hl [1, 2, 3] rfl)
  have J21 : ∀ (v : fw_V)  (H : Heap) (locs : List Loc) (ls : Array Slot), mf_Mo_beat_1 v0 = mf_Mo_beat_1_j21 v → mI b v → va_P D vcls (fw_w mCL cA mkd ad v) H → va_S (fw_A mCL ad) s.heap H locs → lv_has ls 5 [(0, .ref (ad 0 0)), (1, .int (1 : Int32)), (2, .int (5 : Int32))] → W p l e (headSpec (Cond.code my_Mo_beat mb_Mo_beat 5 none :: vTB) mrm_Mo_beat).room s m ([.ref (ad 0 0), .int (1 : Int32)] : List Value).toArray below meth c H locs 0 0 (MQ below (fw_Qv D vcls mCL cA mkd ad (mI b) (mf_Mo_beat_1 v0)) ([.ref (ad 0 0), .int (1 : Int32)] : List Value).toArray s 0 0 (fw_A mCL ad)) (F0 m 59 ls []) := by
    intro v  H locs ls hj  hI hP hS hl
    clear J25 J24 J23 J27
    refine lv_iload_n hx hb md_Mo_beat_59 rfl (lv_at hl 2 rfl) ?_
    refine lv_bipush (v := (6 : Int32)) hx hb md_Mo_beat_60 (by decide) ?_
    refine lv_icmp_ge (tgt := 148) hx hb md_Mo_beat_62 (by decide) (fun c_38 => absurd c_38 (by decide)) (fun _ => ?_)
    refine lv_aload_n hx hb md_Mo_beat_65 rfl (lv_at hl 0 rfl) ?_
    refine fw_getr hx hb hts i_Mo hown hK hP (mm_0 (by decide)) (mk_0 0) rfl 23 (by decide) (hts _ L_Mo_77) (fun _ h9 => h9) rfl md_Mo_beat_66 ?_
    refine lv_iconst (v := (3 : Int32)) hx hb md_Mo_beat_69 (by decide) ?_
    refine lv_iload_n hx hb md_Mo_beat_70 rfl (lv_at hl 1 rfl) ?_
    refine lv_imul hx hb md_Mo_beat_71 ?_
    refine fw_top (y := (3 : Int32)) (by decide) ?_
    refine lv_iload_n hx hb md_Mo_beat_72 rfl (lv_at hl 2 rfl) ?_
    refine lv_iconst (v := (2 : Int32)) hx hb md_Mo_beat_73 (by decide) ?_
    refine lv_idiv hx hb md_Mo_beat_74 (by decide) ?_
    refine fw_top (y := (2 : Int32)) (by decide) ?_
    refine lv_iadd hx hb md_Mo_beat_75 ?_
    refine fw_top (y := (5 : Int32)) (by decide) ?_
    refine fw_iald hx hb hK hP (mm_24 (by decide)) (mk_24 0) 0 rfl (j := 5) (by decide) (fw_inc (by decide)) md_Mo_beat_76 ?_
    have h_39 : vp_in ((v 24 0 5) + 1) 9 := hI.1 24 0 (5)
    refine lv_istore_n (lv' := [(3, .int (v 24 0 5)), (0, .ref (ad 0 0)), (1, .int (1 : Int32)), (2, .int (5 : Int32))]) hx hb md_Mo_beat_77 rfl hl (by decide) rfl (fun ls hl => ?_)
    refine lv_iload_n hx hb md_Mo_beat_78 rfl (lv_at hl 0 rfl) ?_
    refine lv_if_lt (tgt := 113) hx hb md_Mo_beat_79 (by decide) (fun c_40 => ?_) (fun c_40 => ?_)
    · exact J22 v  _ _ _ (by rw [hj]; simp only [mf_Mo_beat_1_j21, if_pos c_40])   hI hP hS (lv_sub hl [1, 2, 3] rfl)
    · have h_46 : vp_in (v 24 0 5) 8 := fw_m8 h_39 c_40
      refine lv_aload_n hx hb md_Mo_beat_82 rfl (lv_at hl 1 rfl) ?_
      refine fw_getr hx hb hts i_Mo hown hK hP (mm_0 (by decide)) (mk_0 0) rfl 15 (by decide) (hts _ L_Mo_53) (fun _ h9 => h9) rfl md_Mo_beat_83 ?_
      refine lv_iload_n hx hb md_Mo_beat_86 rfl (lv_at hl 2 rfl) ?_
      refine fw_iald hx hb hK hP (mm_16 (by decide)) (mk_16 0) 0 rfl (j := 1) (by decide) (fw_inc (by decide)) md_Mo_beat_87 ?_
      refine lv_iload_n hx hb md_Mo_beat_88 rfl (lv_at hl 3 rfl) ?_
      refine lv_iconst (v := (2 : Int32)) hx hb md_Mo_beat_89 (by decide) ?_
      refine lv_idiv hx hb md_Mo_beat_90 (by decide) ?_
      refine fw_top (y := (2 : Int32)) (by decide) ?_
      refine lv_ishr hx hb md_Mo_beat_91 ?_
      refine lv_iconst (v := (1 : Int32)) hx hb md_Mo_beat_92 (by decide) ?_
      refine lv_iand hx hb md_Mo_beat_93 ?_
      refine lv_if_ne (tgt := 113) hx hb md_Mo_beat_94 (by decide) (fun c_47 => ?_) (fun c_47 => ?_)
      · exact J22 v  _ _ _ (by rw [hj]; simp only [mf_Mo_beat_1_j21, if_neg c_40, if_neg c_47])   hI hP hS (lv_sub hl [1, 2, 3] rfl)
      · refine lv_iload_n hx hb md_Mo_beat_97 rfl (lv_at hl 3 rfl) ?_
        refine lv_iconst (v := (2 : Int32)) hx hb md_Mo_beat_98 (by decide) ?_
        refine lv_irem hx hb md_Mo_beat_99 (by decide) ?_
        refine fw_top (y := (1 : Int32)) (by decide) ?_
        refine lv_aload_n hx hb md_Mo_beat_100 rfl (lv_at hl 1 rfl) ?_
        refine fw_getr hx hb hts i_Mo hown hK hP (mm_0 (by decide)) (mk_0 0) rfl 1 (by decide) (hts _ L_Mo_13) (fun _ h9 => h9) rfl md_Mo_beat_101 ?_
        refine lv_iload_n hx hb md_Mo_beat_104 rfl (lv_at hl 0 rfl) ?_
        refine fw_iald hx hb hK hP (mm_2 (by decide)) (mk_2 0) 0 rfl (j := (v 24 0 5).toNatClampNeg) rfl h_46 md_Mo_beat_105 ?_
        refine lv_icmp_ge (tgt := 113) hx hb md_Mo_beat_106 (by decide) (fun c_48 => ?_) (fun c_48 => ?_)
        · exact J22 v  _ _ _ (by rw [hj]; simp only [mf_Mo_beat_1_j21, if_neg c_40, if_pos c_47, if_pos c_48])   hI hP hS (lv_sub hl [1, 2, 3] rfl)
        · refine lv_iconst (v := (1 : Int32)) hx hb md_Mo_beat_109 (by decide) ?_
          refine lv_goto (tgt := 114) hx hb md_Mo_beat_110 (by decide) ?_
          exact J26 v  _ _ _ (by rw [hj]; simp only [mf_Mo_beat_1_j21, if_neg c_40, if_pos c_47, if_neg c_48])   hI hP hS (lv_sub hl [1, 2, 3] rfl)
  have J20 : ∀ (v : fw_V)  (H : Heap) (locs : List Loc) (ls : Array Slot), mf_Mo_beat_1 v0 = mf_Mo_beat_1_j20 v → mI b v → va_P D vcls (fw_w mCL cA mkd ad v) H → va_S (fw_A mCL ad) s.heap H locs → lv_has ls 5 [(0, .ref (ad 0 0)), (1, .int (1 : Int32)), (2, .int (4 : Int32))] → W p l e (headSpec (Cond.code my_Mo_beat mb_Mo_beat 5 none :: vTB) mrm_Mo_beat).room s m ([.ref (ad 0 0), .int (1 : Int32)] : List Value).toArray below meth c H locs 0 0 (MQ below (fw_Qv D vcls mCL cA mkd ad (mI b) (mf_Mo_beat_1 v0)) ([.ref (ad 0 0), .int (1 : Int32)] : List Value).toArray s 0 0 (fw_A mCL ad)) (F0 m 141 ls [.int (0 : Int32), .int (4 : Int32), .ref (ad 9 0)]) := by
    intro v  H locs ls hj  hI hP hS hl
    clear J25 J24 J23 J22 J27 J26
    refine fw_iast hx hb hK hD hP hS (mm_9 (by decide)) (mk_9 0) 0 rfl (j := 4) (by decide) (fw_inc (by decide)) md_Mo_beat_141 (fun v37 H locs ev37 hP hS => ?_)
    have hI : mI b v37 := by rw [ev37]; exact mI_up hI trivial trivial
    refine lv_iinc (v := (5 : Int32)) (lv' := [(2, .int (5 : Int32)), (0, .ref (ad 0 0)), (1, .int (1 : Int32))]) hx hb md_Mo_beat_142 hl (k := 2) rfl (by decide) (by decide) rfl (fun ls hl => ?_)
    refine lv_goto (tgt := 59) hx hb md_Mo_beat_145 (by decide) ?_
    exact J21 v37  _ _ _ (by rw [hj]; subst ev37; simp only [mf_Mo_beat_1_j20])   hI hP hS (lv_sub hl [1, 2, 0] rfl)
  have J19 : ∀ (v : fw_V)  (H : Heap) (locs : List Loc) (ls : Array Slot), mf_Mo_beat_1 v0 = mf_Mo_beat_1_j19 v → mI b v → va_P D vcls (fw_w mCL cA mkd ad v) H → va_S (fw_A mCL ad) s.heap H locs → lv_has ls 5 [(0, .ref (ad 0 0)), (1, .int (1 : Int32)), (2, .int (4 : Int32))] → W p l e (headSpec (Cond.code my_Mo_beat mb_Mo_beat 5 none :: vTB) mrm_Mo_beat).room s m ([.ref (ad 0 0), .int (1 : Int32)] : List Value).toArray below meth c H locs 0 0 (MQ below (fw_Qv D vcls mCL cA mkd ad (mI b) (mf_Mo_beat_1 v0)) ([.ref (ad 0 0), .int (1 : Int32)] : List Value).toArray s 0 0 (fw_A mCL ad)) (F0 m 114 ls [.int (0 : Int32)]) := by
    intro v  H locs ls hj  hI hP hS hl
    clear J25 J24 J23 J22 J27 J26 J21
    refine lv_istore (lv' := [(4, .int (0 : Int32)), (0, .ref (ad 0 0)), (1, .int (1 : Int32)), (2, .int (4 : Int32))]) hx hb md_Mo_beat_114 hl (by decide) rfl (fun ls hl => ?_)
    refine lv_aload_n hx hb md_Mo_beat_116 rfl (lv_at hl 1 rfl) ?_
    refine fw_getr hx hb hts i_Mo hown hK hP (mm_0 (by decide)) (mk_0 0) rfl 8 (by decide) (hts _ L_Mo_35) (fun _ h9 => h9) rfl md_Mo_beat_117 ?_
    refine lv_iload_n hx hb md_Mo_beat_120 rfl (lv_at hl 3 rfl) ?_
    refine lv_iload hx hb md_Mo_beat_121 (lv_at hl 0 rfl) ?_
    refine lv_if_eq (tgt := 140) hx hb md_Mo_beat_123 (by decide) (fun _ => ?_) (fun c_36 => absurd (by decide) c_36)
    refine lv_iconst (v := (0 : Int32)) hx hb md_Mo_beat_140 (by decide) ?_
    exact J20 v  _ _ _ (by rw [hj]; simp only [mf_Mo_beat_1_j19])   hI hP hS (lv_sub hl [1, 2, 3] rfl)
  have J18 : ∀ (v : fw_V)  (H : Heap) (locs : List Loc) (ls : Array Slot), mf_Mo_beat_1 v0 = mf_Mo_beat_1_j18 v → mI b v → va_P D vcls (fw_w mCL cA mkd ad v) H → va_S (fw_A mCL ad) s.heap H locs → lv_has ls 5 [(0, .ref (ad 0 0)), (1, .int (1 : Int32)), (2, .int (4 : Int32))] → W p l e (headSpec (Cond.code my_Mo_beat mb_Mo_beat 5 none :: vTB) mrm_Mo_beat).room s m ([.ref (ad 0 0), .int (1 : Int32)] : List Value).toArray below meth c H locs 0 0 (MQ below (fw_Qv D vcls mCL cA mkd ad (mI b) (mf_Mo_beat_1 v0)) ([.ref (ad 0 0), .int (1 : Int32)] : List Value).toArray s 0 0 (fw_A mCL ad)) (F0 m 113 ls []) := by
    intro v  H locs ls hj  hI hP hS hl
    clear J25 J24 J23 J22 J27 J26 J21 J20
    refine lv_iconst (v := (0 : Int32)) hx hb md_Mo_beat_113 (by decide) ?_
    exact J19 v  _ _ _ (by rw [hj]; simp only [mf_Mo_beat_1_j18])   hI hP hS (lv_sub hl [0, 1, 2] rfl)
  have J29 : ∀ (v : fw_V) (x90 : Int32) (H : Heap) (locs : List Loc) (ls : Array Slot), mf_Mo_beat_1 v0 = mf_Mo_beat_1_j29 v x90 → mI b v → va_P D vcls (fw_w mCL cA mkd ad v) H → va_S (fw_A mCL ad) s.heap H locs → lv_has ls 5 [(0, .ref (ad 0 0)), (1, .int (1 : Int32)), (2, .int (4 : Int32))] → W p l e (headSpec (Cond.code my_Mo_beat mb_Mo_beat 5 none :: vTB) mrm_Mo_beat).room s m ([.ref (ad 0 0), .int (1 : Int32)] : List Value).toArray below meth c H locs 0 0 (MQ below (fw_Qv D vcls mCL cA mkd ad (mI b) (mf_Mo_beat_1 v0)) ([.ref (ad 0 0), .int (1 : Int32)] : List Value).toArray s 0 0 (fw_A mCL ad)) (F0 m 141 ls [.int x90, .int (4 : Int32), .ref (ad 9 0)]) := by
    intro v x90 H locs ls hj  hI hP hS hl
    clear J25 J24 J23 J22 J27 J26 J20 J19 J18
    refine fw_iast hx hb hK hD hP hS (mm_9 (by decide)) (mk_9 0) 0 rfl (j := 4) (by decide) (fw_inc (by decide)) md_Mo_beat_141 (fun v55 H locs ev55 hP hS => ?_)
    have hI : mI b v55 := by rw [ev55]; exact mI_up hI trivial trivial
    refine lv_iinc (v := (5 : Int32)) (lv' := [(2, .int (5 : Int32)), (0, .ref (ad 0 0)), (1, .int (1 : Int32))]) hx hb md_Mo_beat_142 hl (k := 2) rfl (by decide) (by decide) rfl (fun ls hl => ?_)
    refine lv_goto (tgt := 59) hx hb md_Mo_beat_145 (by decide) ?_
    exact J21 v55  _ _ _ (by rw [hj]; subst ev55; simp only [mf_Mo_beat_1_j29])   hI hP hS (lv_sub hl [1, 2, 0] rfl)
  have J28 : ∀ (v : fw_V)  (H : Heap) (locs : List Loc) (ls : Array Slot), mf_Mo_beat_1 v0 = mf_Mo_beat_1_j28 v → mI b v → va_P D vcls (fw_w mCL cA mkd ad v) H → va_S (fw_A mCL ad) s.heap H locs → lv_has ls 5 [(0, .ref (ad 0 0)), (1, .int (1 : Int32)), (2, .int (4 : Int32))] → W p l e (headSpec (Cond.code my_Mo_beat mb_Mo_beat 5 none :: vTB) mrm_Mo_beat).room s m ([.ref (ad 0 0), .int (1 : Int32)] : List Value).toArray below meth c H locs 0 0 (MQ below (fw_Qv D vcls mCL cA mkd ad (mI b) (mf_Mo_beat_1 v0)) ([.ref (ad 0 0), .int (1 : Int32)] : List Value).toArray s 0 0 (fw_A mCL ad)) (F0 m 114 ls [.int (1 : Int32)]) := by
    intro v  H locs ls hj  hI hP hS hl
    clear J25 J24 J23 J22 J27 J26 J21 J20 J19 J18
    refine lv_istore (lv' := [(4, .int (1 : Int32)), (0, .ref (ad 0 0)), (1, .int (1 : Int32)), (2, .int (4 : Int32))]) hx hb md_Mo_beat_114 hl (by decide) rfl (fun ls hl => ?_)
    refine lv_aload_n hx hb md_Mo_beat_116 rfl (lv_at hl 1 rfl) ?_
    refine fw_getr hx hb hts i_Mo hown hK hP (mm_0 (by decide)) (mk_0 0) rfl 8 (by decide) (hts _ L_Mo_35) (fun _ h9 => h9) rfl md_Mo_beat_117 ?_
    refine lv_iload_n hx hb md_Mo_beat_120 rfl (lv_at hl 3 rfl) ?_
    refine lv_iload hx hb md_Mo_beat_121 (lv_at hl 0 rfl) ?_
    refine lv_if_eq (tgt := 140) hx hb md_Mo_beat_123 (by decide) (fun c_54 => absurd c_54 (by decide)) (fun _ => ?_)
    refine lv_aload_n hx hb md_Mo_beat_126 rfl (lv_at hl 1 rfl) ?_
    refine fw_getr hx hb hts i_Mo hown hK hP (mm_0 (by decide)) (mk_0 0) rfl 25 (by decide) (hts _ L_Mo_83) (fun _ h9 => h9) rfl md_Mo_beat_127 ?_
    refine lv_bipush (v := (6 : Int32)) hx hb md_Mo_beat_130 (by decide) ?_
    refine lv_iload_n hx hb md_Mo_beat_132 rfl (lv_at hl 2 rfl) ?_
    refine lv_imul hx hb md_Mo_beat_133 ?_
    refine fw_top (y := (6 : Int32)) (by decide) ?_
    refine lv_iload_n hx hb md_Mo_beat_134 rfl (lv_at hl 3 rfl) ?_
    refine lv_iadd hx hb md_Mo_beat_135 ?_
    refine fw_top (y := (10 : Int32)) (by decide) ?_
    refine fw_iald hx hb hK hP (mm_26 (by decide)) (mk_26 0) 0 rfl (j := 10) (by decide) (fw_inc (by decide)) md_Mo_beat_136 ?_
    refine lv_goto (tgt := 141) hx hb md_Mo_beat_137 (by decide) ?_
    exact J29 v ((v 26 0 10)) _ _ _ (by rw [hj]; simp only [mf_Mo_beat_1_j28])   hI hP hS (lv_sub hl [1, 2, 3] rfl)
  have J17 : ∀ (v : fw_V)  (H : Heap) (locs : List Loc) (ls : Array Slot), mf_Mo_beat_1 v0 = mf_Mo_beat_1_j17 v → mI b v → va_P D vcls (fw_w mCL cA mkd ad v) H → va_S (fw_A mCL ad) s.heap H locs → lv_has ls 5 [(0, .ref (ad 0 0)), (1, .int (1 : Int32)), (2, .int (4 : Int32))] → W p l e (headSpec (Cond.code my_Mo_beat mb_Mo_beat 5 none :: vTB) mrm_Mo_beat).room s m ([.ref (ad 0 0), .int (1 : Int32)] : List Value).toArray below meth c H locs 0 0 (MQ below (fw_Qv D vcls mCL cA mkd ad (mI b) (mf_Mo_beat_1 v0)) ([.ref (ad 0 0), .int (1 : Int32)] : List Value).toArray s 0 0 (fw_A mCL ad)) (F0 m 59 ls []) := by
    intro v  H locs ls hj  hI hP hS hl
    clear J25 J24 J23 J22 J27 J26 J21 J20 J19 J29
    refine lv_iload_n hx hb md_Mo_beat_59 rfl (lv_at hl 2 rfl) ?_
    refine lv_bipush (v := (6 : Int32)) hx hb md_Mo_beat_60 (by decide) ?_
    refine lv_icmp_ge (tgt := 148) hx hb md_Mo_beat_62 (by decide) (fun c_33 => absurd c_33 (by decide)) (fun _ => ?_)
    refine lv_aload_n hx hb md_Mo_beat_65 rfl (lv_at hl 0 rfl) ?_
    refine fw_getr hx hb hts i_Mo hown hK hP (mm_0 (by decide)) (mk_0 0) rfl 23 (by decide) (hts _ L_Mo_77) (fun _ h9 => h9) rfl md_Mo_beat_66 ?_
    refine lv_iconst (v := (3 : Int32)) hx hb md_Mo_beat_69 (by decide) ?_
    refine lv_iload_n hx hb md_Mo_beat_70 rfl (lv_at hl 1 rfl) ?_
    refine lv_imul hx hb md_Mo_beat_71 ?_
    refine fw_top (y := (3 : Int32)) (by decide) ?_
    refine lv_iload_n hx hb md_Mo_beat_72 rfl (lv_at hl 2 rfl) ?_
    refine lv_iconst (v := (2 : Int32)) hx hb md_Mo_beat_73 (by decide) ?_
    refine lv_idiv hx hb md_Mo_beat_74 (by decide) ?_
    refine fw_top (y := (2 : Int32)) (by decide) ?_
    refine lv_iadd hx hb md_Mo_beat_75 ?_
    refine fw_top (y := (5 : Int32)) (by decide) ?_
    refine fw_iald hx hb hK hP (mm_24 (by decide)) (mk_24 0) 0 rfl (j := 5) (by decide) (fw_inc (by decide)) md_Mo_beat_76 ?_
    have h_34 : vp_in ((v 24 0 5) + 1) 9 := hI.1 24 0 (5)
    refine lv_istore_n (lv' := [(3, .int (v 24 0 5)), (0, .ref (ad 0 0)), (1, .int (1 : Int32)), (2, .int (4 : Int32))]) hx hb md_Mo_beat_77 rfl hl (by decide) rfl (fun ls hl => ?_)
    refine lv_iload_n hx hb md_Mo_beat_78 rfl (lv_at hl 0 rfl) ?_
    refine lv_if_lt (tgt := 113) hx hb md_Mo_beat_79 (by decide) (fun c_35 => ?_) (fun c_35 => ?_)
    · exact J18 v  _ _ _ (by rw [hj]; simp only [mf_Mo_beat_1_j17, if_pos c_35])   hI hP hS (lv_sub hl [1, 2, 3] rfl)
    · have h_51 : vp_in (v 24 0 5) 8 := fw_m8 h_34 c_35
      refine lv_aload_n hx hb md_Mo_beat_82 rfl (lv_at hl 1 rfl) ?_
      refine fw_getr hx hb hts i_Mo hown hK hP (mm_0 (by decide)) (mk_0 0) rfl 15 (by decide) (hts _ L_Mo_53) (fun _ h9 => h9) rfl md_Mo_beat_83 ?_
      refine lv_iload_n hx hb md_Mo_beat_86 rfl (lv_at hl 2 rfl) ?_
      refine fw_iald hx hb hK hP (mm_16 (by decide)) (mk_16 0) 0 rfl (j := 1) (by decide) (fw_inc (by decide)) md_Mo_beat_87 ?_
      refine lv_iload_n hx hb md_Mo_beat_88 rfl (lv_at hl 3 rfl) ?_
      refine lv_iconst (v := (2 : Int32)) hx hb md_Mo_beat_89 (by decide) ?_
      refine lv_idiv hx hb md_Mo_beat_90 (by decide) ?_
      refine fw_top (y := (2 : Int32)) (by decide) ?_
      refine lv_ishr hx hb md_Mo_beat_91 ?_
      refine lv_iconst (v := (1 : Int32)) hx hb md_Mo_beat_92 (by decide) ?_
      refine lv_iand hx hb md_Mo_beat_93 ?_
      refine lv_if_ne (tgt := 113) hx hb md_Mo_beat_94 (by decide) (fun c_52 => ?_) (fun c_52 => ?_)
      · exact J18 v  _ _ _ (by rw [hj]; simp only [mf_Mo_beat_1_j17, if_neg c_35, if_neg c_52])   hI hP hS (lv_sub hl [1, 2, 3] rfl)
      · refine lv_iload_n hx hb md_Mo_beat_97 rfl (lv_at hl 3 rfl) ?_
        refine lv_iconst (v := (2 : Int32)) hx hb md_Mo_beat_98 (by decide) ?_
        refine lv_irem hx hb md_Mo_beat_99 (by decide) ?_
        refine fw_top (y := (0 : Int32)) (by decide) ?_
        refine lv_aload_n hx hb md_Mo_beat_100 rfl (lv_at hl 1 rfl) ?_
        refine fw_getr hx hb hts i_Mo hown hK hP (mm_0 (by decide)) (mk_0 0) rfl 1 (by decide) (hts _ L_Mo_13) (fun _ h9 => h9) rfl md_Mo_beat_101 ?_
        refine lv_iload_n hx hb md_Mo_beat_104 rfl (lv_at hl 0 rfl) ?_
        refine fw_iald hx hb hK hP (mm_2 (by decide)) (mk_2 0) 0 rfl (j := (v 24 0 5).toNatClampNeg) rfl h_51 md_Mo_beat_105 ?_
        refine lv_icmp_ge (tgt := 113) hx hb md_Mo_beat_106 (by decide) (fun c_53 => ?_) (fun c_53 => ?_)
        · exact J18 v  _ _ _ (by rw [hj]; simp only [mf_Mo_beat_1_j17, if_neg c_35, if_pos c_52, if_pos c_53])   hI hP hS (lv_sub hl [1, 2, 3] rfl)
        · refine lv_iconst (v := (1 : Int32)) hx hb md_Mo_beat_109 (by decide) ?_
          refine lv_goto (tgt := 114) hx hb md_Mo_beat_110 (by decide) ?_
          exact J28 v  _ _ _ (by rw [hj]; simp only [mf_Mo_beat_1_j17, if_neg c_35, if_pos c_52, if_neg c_53])   hI hP hS (lv_sub hl [1, 2, 3] rfl)
  have J16 : ∀ (v : fw_V)  (H : Heap) (locs : List Loc) (ls : Array Slot), mf_Mo_beat_1 v0 = mf_Mo_beat_1_j16 v → mI b v → va_P D vcls (fw_w mCL cA mkd ad v) H → va_S (fw_A mCL ad) s.heap H locs → lv_has ls 5 [(0, .ref (ad 0 0)), (1, .int (1 : Int32)), (2, .int (3 : Int32))] → W p l e (headSpec (Cond.code my_Mo_beat mb_Mo_beat 5 none :: vTB) mrm_Mo_beat).room s m ([.ref (ad 0 0), .int (1 : Int32)] : List Value).toArray below meth c H locs 0 0 (MQ below (fw_Qv D vcls mCL cA mkd ad (mI b) (mf_Mo_beat_1 v0)) ([.ref (ad 0 0), .int (1 : Int32)] : List Value).toArray s 0 0 (fw_A mCL ad)) (F0 m 141 ls [.int (0 : Int32), .int (3 : Int32), .ref (ad 9 0)]) := by
    intro v  H locs ls hj  hI hP hS hl
    clear J25 J24 J23 J22 J27 J26 J21 J20 J19 J18 J29 J28
    refine fw_iast hx hb hK hD hP hS (mm_9 (by decide)) (mk_9 0) 0 rfl (j := 3) (by decide) (fw_inc (by decide)) md_Mo_beat_141 (fun v32 H locs ev32 hP hS => ?_)
    have hI : mI b v32 := by rw [ev32]; exact mI_up hI trivial trivial
    refine lv_iinc (v := (4 : Int32)) (lv' := [(2, .int (4 : Int32)), (0, .ref (ad 0 0)), (1, .int (1 : Int32))]) hx hb md_Mo_beat_142 hl (k := 2) rfl (by decide) (by decide) rfl (fun ls hl => ?_)
    refine lv_goto (tgt := 59) hx hb md_Mo_beat_145 (by decide) ?_
    exact J17 v32  _ _ _ (by rw [hj]; subst ev32; simp only [mf_Mo_beat_1_j16])   hI hP hS (lv_sub hl [1, 2, 0] rfl)
  have J15 : ∀ (v : fw_V)  (H : Heap) (locs : List Loc) (ls : Array Slot), mf_Mo_beat_1 v0 = mf_Mo_beat_1_j15 v → mI b v → va_P D vcls (fw_w mCL cA mkd ad v) H → va_S (fw_A mCL ad) s.heap H locs → lv_has ls 5 [(0, .ref (ad 0 0)), (1, .int (1 : Int32)), (2, .int (3 : Int32))] → W p l e (headSpec (Cond.code my_Mo_beat mb_Mo_beat 5 none :: vTB) mrm_Mo_beat).room s m ([.ref (ad 0 0), .int (1 : Int32)] : List Value).toArray below meth c H locs 0 0 (MQ below (fw_Qv D vcls mCL cA mkd ad (mI b) (mf_Mo_beat_1 v0)) ([.ref (ad 0 0), .int (1 : Int32)] : List Value).toArray s 0 0 (fw_A mCL ad)) (F0 m 114 ls [.int (0 : Int32)]) := by
    intro v  H locs ls hj  hI hP hS hl
    clear J25 J24 J23 J22 J27 J26 J21 J20 J19 J18 J29 J28 J17
    refine lv_istore (lv' := [(4, .int (0 : Int32)), (0, .ref (ad 0 0)), (1, .int (1 : Int32)), (2, .int (3 : Int32))]) hx hb md_Mo_beat_114 hl (by decide) rfl (fun ls hl => ?_)
    refine lv_aload_n hx hb md_Mo_beat_116 rfl (lv_at hl 1 rfl) ?_
    refine fw_getr hx hb hts i_Mo hown hK hP (mm_0 (by decide)) (mk_0 0) rfl 8 (by decide) (hts _ L_Mo_35) (fun _ h9 => h9) rfl md_Mo_beat_117 ?_
    refine lv_iload_n hx hb md_Mo_beat_120 rfl (lv_at hl 3 rfl) ?_
    refine lv_iload hx hb md_Mo_beat_121 (lv_at hl 0 rfl) ?_
    refine lv_if_eq (tgt := 140) hx hb md_Mo_beat_123 (by decide) (fun _ => ?_) (fun c_31 => absurd (by decide) c_31)
    refine lv_iconst (v := (0 : Int32)) hx hb md_Mo_beat_140 (by decide) ?_
    exact J16 v  _ _ _ (by rw [hj]; simp only [mf_Mo_beat_1_j15])   hI hP hS (lv_sub hl [1, 2, 3] rfl)
  have J14 : ∀ (v : fw_V)  (H : Heap) (locs : List Loc) (ls : Array Slot), mf_Mo_beat_1 v0 = mf_Mo_beat_1_j14 v → mI b v → va_P D vcls (fw_w mCL cA mkd ad v) H → va_S (fw_A mCL ad) s.heap H locs → lv_has ls 5 [(0, .ref (ad 0 0)), (1, .int (1 : Int32)), (2, .int (3 : Int32))] → W p l e (headSpec (Cond.code my_Mo_beat mb_Mo_beat 5 none :: vTB) mrm_Mo_beat).room s m ([.ref (ad 0 0), .int (1 : Int32)] : List Value).toArray below meth c H locs 0 0 (MQ below (fw_Qv D vcls mCL cA mkd ad (mI b) (mf_Mo_beat_1 v0)) ([.ref (ad 0 0), .int (1 : Int32)] : List Value).toArray s 0 0 (fw_A mCL ad)) (F0 m 113 ls []) := by
    intro v  H locs ls hj  hI hP hS hl
    clear J25 J24 J23 J22 J27 J26 J21 J20 J19 J18 J29 J28 J17 J16
    refine lv_iconst (v := (0 : Int32)) hx hb md_Mo_beat_113 (by decide) ?_
    exact J15 v  _ _ _ (by rw [hj]; simp only [mf_Mo_beat_1_j14])   hI hP hS (lv_sub hl [0, 1, 2] rfl)
  have J31 : ∀ (v : fw_V) (x90 : Int32) (H : Heap) (locs : List Loc) (ls : Array Slot), mf_Mo_beat_1 v0 = mf_Mo_beat_1_j31 v x90 → mI b v → va_P D vcls (fw_w mCL cA mkd ad v) H → va_S (fw_A mCL ad) s.heap H locs → lv_has ls 5 [(0, .ref (ad 0 0)), (1, .int (1 : Int32)), (2, .int (3 : Int32))] → W p l e (headSpec (Cond.code my_Mo_beat mb_Mo_beat 5 none :: vTB) mrm_Mo_beat).room s m ([.ref (ad 0 0), .int (1 : Int32)] : List Value).toArray below meth c H locs 0 0 (MQ below (fw_Qv D vcls mCL cA mkd ad (mI b) (mf_Mo_beat_1 v0)) ([.ref (ad 0 0), .int (1 : Int32)] : List Value).toArray s 0 0 (fw_A mCL ad)) (F0 m 141 ls [.int x90, .int (3 : Int32), .ref (ad 9 0)]) := by
    intro v x90 H locs ls hj  hI hP hS hl
    clear J25 J24 J23 J22 J27 J26 J21 J20 J19 J18 J29 J28 J16 J15 J14
    refine fw_iast hx hb hK hD hP hS (mm_9 (by decide)) (mk_9 0) 0 rfl (j := 3) (by decide) (fw_inc (by decide)) md_Mo_beat_141 (fun v60 H locs ev60 hP hS => ?_)
    have hI : mI b v60 := by rw [ev60]; exact mI_up hI trivial trivial
    refine lv_iinc (v := (4 : Int32)) (lv' := [(2, .int (4 : Int32)), (0, .ref (ad 0 0)), (1, .int (1 : Int32))]) hx hb md_Mo_beat_142 hl (k := 2) rfl (by decide) (by decide) rfl (fun ls hl => ?_)
    refine lv_goto (tgt := 59) hx hb md_Mo_beat_145 (by decide) ?_
    exact J17 v60  _ _ _ (by rw [hj]; subst ev60; simp only [mf_Mo_beat_1_j31])   hI hP hS (lv_sub hl [1, 2, 0] rfl)
  have J30 : ∀ (v : fw_V)  (H : Heap) (locs : List Loc) (ls : Array Slot), mf_Mo_beat_1 v0 = mf_Mo_beat_1_j30 v → mI b v → va_P D vcls (fw_w mCL cA mkd ad v) H → va_S (fw_A mCL ad) s.heap H locs → lv_has ls 5 [(0, .ref (ad 0 0)), (1, .int (1 : Int32)), (2, .int (3 : Int32))] → W p l e (headSpec (Cond.code my_Mo_beat mb_Mo_beat 5 none :: vTB) mrm_Mo_beat).room s m ([.ref (ad 0 0), .int (1 : Int32)] : List Value).toArray below meth c H locs 0 0 (MQ below (fw_Qv D vcls mCL cA mkd ad (mI b) (mf_Mo_beat_1 v0)) ([.ref (ad 0 0), .int (1 : Int32)] : List Value).toArray s 0 0 (fw_A mCL ad)) (F0 m 114 ls [.int (1 : Int32)]) := by
    intro v  H locs ls hj  hI hP hS hl
    clear J25 J24 J23 J22 J27 J26 J21 J20 J19 J18 J29 J28 J17 J16 J15 J14
    refine lv_istore (lv' := [(4, .int (1 : Int32)), (0, .ref (ad 0 0)), (1, .int (1 : Int32)), (2, .int (3 : Int32))]) hx hb md_Mo_beat_114 hl (by decide) rfl (fun ls hl => ?_)
    refine lv_aload_n hx hb md_Mo_beat_116 rfl (lv_at hl 1 rfl) ?_
    refine fw_getr hx hb hts i_Mo hown hK hP (mm_0 (by decide)) (mk_0 0) rfl 8 (by decide) (hts _ L_Mo_35) (fun _ h9 => h9) rfl md_Mo_beat_117 ?_
    refine lv_iload_n hx hb md_Mo_beat_120 rfl (lv_at hl 3 rfl) ?_
    refine lv_iload hx hb md_Mo_beat_121 (lv_at hl 0 rfl) ?_
    refine lv_if_eq (tgt := 140) hx hb md_Mo_beat_123 (by decide) (fun c_59 => absurd c_59 (by decide)) (fun _ => ?_)
    refine lv_aload_n hx hb md_Mo_beat_126 rfl (lv_at hl 1 rfl) ?_
    refine fw_getr hx hb hts i_Mo hown hK hP (mm_0 (by decide)) (mk_0 0) rfl 25 (by decide) (hts _ L_Mo_83) (fun _ h9 => h9) rfl md_Mo_beat_127 ?_
    refine lv_bipush (v := (6 : Int32)) hx hb md_Mo_beat_130 (by decide) ?_
    refine lv_iload_n hx hb md_Mo_beat_132 rfl (lv_at hl 2 rfl) ?_
    refine lv_imul hx hb md_Mo_beat_133 ?_
    refine fw_top (y := (6 : Int32)) (by decide) ?_
    refine lv_iload_n hx hb md_Mo_beat_134 rfl (lv_at hl 3 rfl) ?_
    refine lv_iadd hx hb md_Mo_beat_135 ?_
    refine fw_top (y := (9 : Int32)) (by decide) ?_
    refine fw_iald hx hb hK hP (mm_26 (by decide)) (mk_26 0) 0 rfl (j := 9) (by decide) (fw_inc (by decide)) md_Mo_beat_136 ?_
    refine lv_goto (tgt := 141) hx hb md_Mo_beat_137 (by decide) ?_
    exact J31 v ((v 26 0 9)) _ _ _ (by rw [hj]; simp only [mf_Mo_beat_1_j30])   hI hP hS (lv_sub hl [1, 2, 3] rfl)
  have J13 : ∀ (v : fw_V)  (H : Heap) (locs : List Loc) (ls : Array Slot), mf_Mo_beat_1 v0 = mf_Mo_beat_1_j13 v → mI b v → va_P D vcls (fw_w mCL cA mkd ad v) H → va_S (fw_A mCL ad) s.heap H locs → lv_has ls 5 [(0, .ref (ad 0 0)), (1, .int (1 : Int32)), (2, .int (3 : Int32))] → W p l e (headSpec (Cond.code my_Mo_beat mb_Mo_beat 5 none :: vTB) mrm_Mo_beat).room s m ([.ref (ad 0 0), .int (1 : Int32)] : List Value).toArray below meth c H locs 0 0 (MQ below (fw_Qv D vcls mCL cA mkd ad (mI b) (mf_Mo_beat_1 v0)) ([.ref (ad 0 0), .int (1 : Int32)] : List Value).toArray s 0 0 (fw_A mCL ad)) (F0 m 59 ls []) := by
    intro v  H locs ls hj  hI hP hS hl
    clear J25 J24 J23 J22 J27 J26 J21 J20 J19 J18 J29 J28 J17 J16 J15 J31
    refine lv_iload_n hx hb md_Mo_beat_59 rfl (lv_at hl 2 rfl) ?_
    refine lv_bipush (v := (6 : Int32)) hx hb md_Mo_beat_60 (by decide) ?_
    refine lv_icmp_ge (tgt := 148) hx hb md_Mo_beat_62 (by decide) (fun c_28 => absurd c_28 (by decide)) (fun _ => ?_)
    refine lv_aload_n hx hb md_Mo_beat_65 rfl (lv_at hl 0 rfl) ?_
    refine fw_getr hx hb hts i_Mo hown hK hP (mm_0 (by decide)) (mk_0 0) rfl 23 (by decide) (hts _ L_Mo_77) (fun _ h9 => h9) rfl md_Mo_beat_66 ?_
    refine lv_iconst (v := (3 : Int32)) hx hb md_Mo_beat_69 (by decide) ?_
    refine lv_iload_n hx hb md_Mo_beat_70 rfl (lv_at hl 1 rfl) ?_
    refine lv_imul hx hb md_Mo_beat_71 ?_
    refine fw_top (y := (3 : Int32)) (by decide) ?_
    refine lv_iload_n hx hb md_Mo_beat_72 rfl (lv_at hl 2 rfl) ?_
    refine lv_iconst (v := (2 : Int32)) hx hb md_Mo_beat_73 (by decide) ?_
    refine lv_idiv hx hb md_Mo_beat_74 (by decide) ?_
    refine fw_top (y := (1 : Int32)) (by decide) ?_
    refine lv_iadd hx hb md_Mo_beat_75 ?_
    refine fw_top (y := (4 : Int32)) (by decide) ?_
    refine fw_iald hx hb hK hP (mm_24 (by decide)) (mk_24 0) 0 rfl (j := 4) (by decide) (fw_inc (by decide)) md_Mo_beat_76 ?_
    have h_29 : vp_in ((v 24 0 4) + 1) 9 := hI.1 24 0 (4)
    refine lv_istore_n (lv' := [(3, .int (v 24 0 4)), (0, .ref (ad 0 0)), (1, .int (1 : Int32)), (2, .int (3 : Int32))]) hx hb md_Mo_beat_77 rfl hl (by decide) rfl (fun ls hl => ?_)
    refine lv_iload_n hx hb md_Mo_beat_78 rfl (lv_at hl 0 rfl) ?_
    refine lv_if_lt (tgt := 113) hx hb md_Mo_beat_79 (by decide) (fun c_30 => ?_) (fun c_30 => ?_)
    · exact J14 v  _ _ _ (by rw [hj]; simp only [mf_Mo_beat_1_j13, if_pos c_30])   hI hP hS (lv_sub hl [1, 2, 3] rfl)
    · have h_56 : vp_in (v 24 0 4) 8 := fw_m8 h_29 c_30
      refine lv_aload_n hx hb md_Mo_beat_82 rfl (lv_at hl 1 rfl) ?_
      refine fw_getr hx hb hts i_Mo hown hK hP (mm_0 (by decide)) (mk_0 0) rfl 15 (by decide) (hts _ L_Mo_53) (fun _ h9 => h9) rfl md_Mo_beat_83 ?_
      refine lv_iload_n hx hb md_Mo_beat_86 rfl (lv_at hl 2 rfl) ?_
      refine fw_iald hx hb hK hP (mm_16 (by decide)) (mk_16 0) 0 rfl (j := 1) (by decide) (fw_inc (by decide)) md_Mo_beat_87 ?_
      refine lv_iload_n hx hb md_Mo_beat_88 rfl (lv_at hl 3 rfl) ?_
      refine lv_iconst (v := (2 : Int32)) hx hb md_Mo_beat_89 (by decide) ?_
      refine lv_idiv hx hb md_Mo_beat_90 (by decide) ?_
      refine fw_top (y := (1 : Int32)) (by decide) ?_
      refine lv_ishr hx hb md_Mo_beat_91 ?_
      refine lv_iconst (v := (1 : Int32)) hx hb md_Mo_beat_92 (by decide) ?_
      refine lv_iand hx hb md_Mo_beat_93 ?_
      refine lv_if_ne (tgt := 113) hx hb md_Mo_beat_94 (by decide) (fun c_57 => ?_) (fun c_57 => ?_)
      · exact J14 v  _ _ _ (by rw [hj]; simp only [mf_Mo_beat_1_j13, if_neg c_30, if_neg c_57])   hI hP hS (lv_sub hl [1, 2, 3] rfl)
      · refine lv_iload_n hx hb md_Mo_beat_97 rfl (lv_at hl 3 rfl) ?_
        refine lv_iconst (v := (2 : Int32)) hx hb md_Mo_beat_98 (by decide) ?_
        refine lv_irem hx hb md_Mo_beat_99 (by decide) ?_
        refine fw_top (y := (1 : Int32)) (by decide) ?_
        refine lv_aload_n hx hb md_Mo_beat_100 rfl (lv_at hl 1 rfl) ?_
        refine fw_getr hx hb hts i_Mo hown hK hP (mm_0 (by decide)) (mk_0 0) rfl 1 (by decide) (hts _ L_Mo_13) (fun _ h9 => h9) rfl md_Mo_beat_101 ?_
        refine lv_iload_n hx hb md_Mo_beat_104 rfl (lv_at hl 0 rfl) ?_
        refine fw_iald hx hb hK hP (mm_2 (by decide)) (mk_2 0) 0 rfl (j := (v 24 0 4).toNatClampNeg) rfl h_56 md_Mo_beat_105 ?_
        refine lv_icmp_ge (tgt := 113) hx hb md_Mo_beat_106 (by decide) (fun c_58 => ?_) (fun c_58 => ?_)
        · exact J14 v  _ _ _ (by rw [hj]; simp only [mf_Mo_beat_1_j13, if_neg c_30, if_pos c_57, if_pos c_58])   hI hP hS (lv_sub hl [1, 2, 3] rfl)
        · refine lv_iconst (v := (1 : Int32)) hx hb md_Mo_beat_109 (by decide) ?_
          refine lv_goto (tgt := 114) hx hb md_Mo_beat_110 (by decide) ?_
          exact J30 v  _ _ _ (by rw [hj]; simp only [mf_Mo_beat_1_j13, if_neg c_30, if_pos c_57, if_neg c_58])   hI hP hS (lv_sub hl [1, 2, 3] rfl)
  have J12 : ∀ (v : fw_V)  (H : Heap) (locs : List Loc) (ls : Array Slot), mf_Mo_beat_1 v0 = mf_Mo_beat_1_j12 v → mI b v → va_P D vcls (fw_w mCL cA mkd ad v) H → va_S (fw_A mCL ad) s.heap H locs → lv_has ls 5 [(0, .ref (ad 0 0)), (1, .int (1 : Int32)), (2, .int (2 : Int32))] → W p l e (headSpec (Cond.code my_Mo_beat mb_Mo_beat 5 none :: vTB) mrm_Mo_beat).room s m ([.ref (ad 0 0), .int (1 : Int32)] : List Value).toArray below meth c H locs 0 0 (MQ below (fw_Qv D vcls mCL cA mkd ad (mI b) (mf_Mo_beat_1 v0)) ([.ref (ad 0 0), .int (1 : Int32)] : List Value).toArray s 0 0 (fw_A mCL ad)) (F0 m 141 ls [.int (0 : Int32), .int (2 : Int32), .ref (ad 9 0)]) := by
    intro v  H locs ls hj  hI hP hS hl
    clear J25 J24 J23 J22 J27 J26 J21 J20 J19 J18 J29 J28 J17 J16 J15 J14 J31 J30
    refine fw_iast hx hb hK hD hP hS (mm_9 (by decide)) (mk_9 0) 0 rfl (j := 2) (by decide) (fw_inc (by decide)) md_Mo_beat_141 (fun v27 H locs ev27 hP hS => ?_)
    have hI : mI b v27 := by rw [ev27]; exact mI_up hI trivial trivial
    refine lv_iinc (v := (3 : Int32)) (lv' := [(2, .int (3 : Int32)), (0, .ref (ad 0 0)), (1, .int (1 : Int32))]) hx hb md_Mo_beat_142 hl (k := 2) rfl (by decide) (by decide) rfl (fun ls hl => ?_)
    refine lv_goto (tgt := 59) hx hb md_Mo_beat_145 (by decide) ?_
    exact J13 v27  _ _ _ (by rw [hj]; subst ev27; simp only [mf_Mo_beat_1_j12])   hI hP hS (lv_sub hl [1, 2, 0] rfl)
  have J11 : ∀ (v : fw_V)  (H : Heap) (locs : List Loc) (ls : Array Slot), mf_Mo_beat_1 v0 = mf_Mo_beat_1_j11 v → mI b v → va_P D vcls (fw_w mCL cA mkd ad v) H → va_S (fw_A mCL ad) s.heap H locs → lv_has ls 5 [(0, .ref (ad 0 0)), (1, .int (1 : Int32)), (2, .int (2 : Int32))] → W p l e (headSpec (Cond.code my_Mo_beat mb_Mo_beat 5 none :: vTB) mrm_Mo_beat).room s m ([.ref (ad 0 0), .int (1 : Int32)] : List Value).toArray below meth c H locs 0 0 (MQ below (fw_Qv D vcls mCL cA mkd ad (mI b) (mf_Mo_beat_1 v0)) ([.ref (ad 0 0), .int (1 : Int32)] : List Value).toArray s 0 0 (fw_A mCL ad)) (F0 m 114 ls [.int (0 : Int32)]) := by
    intro v  H locs ls hj  hI hP hS hl
    clear J25 J24 J23 J22 J27 J26 J21 J20 J19 J18 J29 J28 J17 J16 J15 J14 J31 J30 J13
    refine lv_istore (lv' := [(4, .int (0 : Int32)), (0, .ref (ad 0 0)), (1, .int (1 : Int32)), (2, .int (2 : Int32))]) hx hb md_Mo_beat_114 hl (by decide) rfl (fun ls hl => ?_)
    refine lv_aload_n hx hb md_Mo_beat_116 rfl (lv_at hl 1 rfl) ?_
    refine fw_getr hx hb hts i_Mo hown hK hP (mm_0 (by decide)) (mk_0 0) rfl 8 (by decide) (hts _ L_Mo_35) (fun _ h9 => h9) rfl md_Mo_beat_117 ?_
    refine lv_iload_n hx hb md_Mo_beat_120 rfl (lv_at hl 3 rfl) ?_
    refine lv_iload hx hb md_Mo_beat_121 (lv_at hl 0 rfl) ?_
    refine lv_if_eq (tgt := 140) hx hb md_Mo_beat_123 (by decide) (fun _ => ?_) (fun c_26 => absurd (by decide) c_26)
    refine lv_iconst (v := (0 : Int32)) hx hb md_Mo_beat_140 (by decide) ?_
    exact J12 v  _ _ _ (by rw [hj]; simp only [mf_Mo_beat_1_j11])   hI hP hS (lv_sub hl [1, 2, 3] rfl)
  have J10 : ∀ (v : fw_V)  (H : Heap) (locs : List Loc) (ls : Array Slot), mf_Mo_beat_1 v0 = mf_Mo_beat_1_j10 v → mI b v → va_P D vcls (fw_w mCL cA mkd ad v) H → va_S (fw_A mCL ad) s.heap H locs → lv_has ls 5 [(0, .ref (ad 0 0)), (1, .int (1 : Int32)), (2, .int (2 : Int32))] → W p l e (headSpec (Cond.code my_Mo_beat mb_Mo_beat 5 none :: vTB) mrm_Mo_beat).room s m ([.ref (ad 0 0), .int (1 : Int32)] : List Value).toArray below meth c H locs 0 0 (MQ below (fw_Qv D vcls mCL cA mkd ad (mI b) (mf_Mo_beat_1 v0)) ([.ref (ad 0 0), .int (1 : Int32)] : List Value).toArray s 0 0 (fw_A mCL ad)) (F0 m 113 ls []) := by
    intro v  H locs ls hj  hI hP hS hl
    clear J25 J24 J23 J22 J27 J26 J21 J20 J19 J18 J29 J28 J17 J16 J15 J14 J31 J30 J13 J12
    refine lv_iconst (v := (0 : Int32)) hx hb md_Mo_beat_113 (by decide) ?_
    exact J11 v  _ _ _ (by rw [hj]; simp only [mf_Mo_beat_1_j10])   hI hP hS (lv_sub hl [0, 1, 2] rfl)
  have J33 : ∀ (v : fw_V) (x90 : Int32) (H : Heap) (locs : List Loc) (ls : Array Slot), mf_Mo_beat_1 v0 = mf_Mo_beat_1_j33 v x90 → mI b v → va_P D vcls (fw_w mCL cA mkd ad v) H → va_S (fw_A mCL ad) s.heap H locs → lv_has ls 5 [(0, .ref (ad 0 0)), (1, .int (1 : Int32)), (2, .int (2 : Int32))] → W p l e (headSpec (Cond.code my_Mo_beat mb_Mo_beat 5 none :: vTB) mrm_Mo_beat).room s m ([.ref (ad 0 0), .int (1 : Int32)] : List Value).toArray below meth c H locs 0 0 (MQ below (fw_Qv D vcls mCL cA mkd ad (mI b) (mf_Mo_beat_1 v0)) ([.ref (ad 0 0), .int (1 : Int32)] : List Value).toArray s 0 0 (fw_A mCL ad)) (F0 m 141 ls [.int x90, .int (2 : Int32), .ref (ad 9 0)]) := by
    intro v x90 H locs ls hj  hI hP hS hl
    clear J25 J24 J23 J22 J27 J26 J21 J20 J19 J18 J29 J28 J17 J16 J15 J14 J31 J30 J12 J11 J10
    refine fw_iast hx hb hK hD hP hS (mm_9 (by decide)) (mk_9 0) 0 rfl (j := 2) (by decide) (fw_inc (by decide)) md_Mo_beat_141 (fun v65 H locs ev65 hP hS => ?_)
    have hI : mI b v65 := by rw [ev65]; exact mI_up hI trivial trivial
    refine lv_iinc (v := (3 : Int32)) (lv' := [(2, .int (3 : Int32)), (0, .ref (ad 0 0)), (1, .int (1 : Int32))]) hx hb md_Mo_beat_142 hl (k := 2) rfl (by decide) (by decide) rfl (fun ls hl => ?_)
    refine lv_goto (tgt := 59) hx hb md_Mo_beat_145 (by decide) ?_
    exact J13 v65  _ _ _ (by rw [hj]; subst ev65; simp only [mf_Mo_beat_1_j33])   hI hP hS (lv_sub hl [1, 2, 0] rfl)
  have J32 : ∀ (v : fw_V)  (H : Heap) (locs : List Loc) (ls : Array Slot), mf_Mo_beat_1 v0 = mf_Mo_beat_1_j32 v → mI b v → va_P D vcls (fw_w mCL cA mkd ad v) H → va_S (fw_A mCL ad) s.heap H locs → lv_has ls 5 [(0, .ref (ad 0 0)), (1, .int (1 : Int32)), (2, .int (2 : Int32))] → W p l e (headSpec (Cond.code my_Mo_beat mb_Mo_beat 5 none :: vTB) mrm_Mo_beat).room s m ([.ref (ad 0 0), .int (1 : Int32)] : List Value).toArray below meth c H locs 0 0 (MQ below (fw_Qv D vcls mCL cA mkd ad (mI b) (mf_Mo_beat_1 v0)) ([.ref (ad 0 0), .int (1 : Int32)] : List Value).toArray s 0 0 (fw_A mCL ad)) (F0 m 114 ls [.int (1 : Int32)]) := by
    intro v  H locs ls hj  hI hP hS hl
    clear J25 J24 J23 J22 J27 J26 J21 J20 J19 J18 J29 J28 J17 J16 J15 J14 J31 J30 J13 J12 J11 J10
    refine lv_istore (lv' := [(4, .int (1 : Int32)), (0, .ref (ad 0 0)), (1, .int (1 : Int32)), (2, .int (2 : Int32))]) hx hb md_Mo_beat_114 hl (by decide) rfl (fun ls hl => ?_)
    refine lv_aload_n hx hb md_Mo_beat_116 rfl (lv_at hl 1 rfl) ?_
    refine fw_getr hx hb hts i_Mo hown hK hP (mm_0 (by decide)) (mk_0 0) rfl 8 (by decide) (hts _ L_Mo_35) (fun _ h9 => h9) rfl md_Mo_beat_117 ?_
    refine lv_iload_n hx hb md_Mo_beat_120 rfl (lv_at hl 3 rfl) ?_
    refine lv_iload hx hb md_Mo_beat_121 (lv_at hl 0 rfl) ?_
    refine lv_if_eq (tgt := 140) hx hb md_Mo_beat_123 (by decide) (fun c_64 => absurd c_64 (by decide)) (fun _ => ?_)
    refine lv_aload_n hx hb md_Mo_beat_126 rfl (lv_at hl 1 rfl) ?_
    refine fw_getr hx hb hts i_Mo hown hK hP (mm_0 (by decide)) (mk_0 0) rfl 25 (by decide) (hts _ L_Mo_83) (fun _ h9 => h9) rfl md_Mo_beat_127 ?_
    refine lv_bipush (v := (6 : Int32)) hx hb md_Mo_beat_130 (by decide) ?_
    refine lv_iload_n hx hb md_Mo_beat_132 rfl (lv_at hl 2 rfl) ?_
    refine lv_imul hx hb md_Mo_beat_133 ?_
    refine fw_top (y := (6 : Int32)) (by decide) ?_
    refine lv_iload_n hx hb md_Mo_beat_134 rfl (lv_at hl 3 rfl) ?_
    refine lv_iadd hx hb md_Mo_beat_135 ?_
    refine fw_top (y := (8 : Int32)) (by decide) ?_
    refine fw_iald hx hb hK hP (mm_26 (by decide)) (mk_26 0) 0 rfl (j := 8) (by decide) (fw_inc (by decide)) md_Mo_beat_136 ?_
    refine lv_goto (tgt := 141) hx hb md_Mo_beat_137 (by decide) ?_
    exact J33 v ((v 26 0 8)) _ _ _ (by rw [hj]; simp only [mf_Mo_beat_1_j32])   hI hP hS (lv_sub hl [1, 2, 3] rfl)
  have J9 : ∀ (v : fw_V)  (H : Heap) (locs : List Loc) (ls : Array Slot), mf_Mo_beat_1 v0 = mf_Mo_beat_1_j9 v → mI b v → va_P D vcls (fw_w mCL cA mkd ad v) H → va_S (fw_A mCL ad) s.heap H locs → lv_has ls 5 [(0, .ref (ad 0 0)), (1, .int (1 : Int32)), (2, .int (2 : Int32))] → W p l e (headSpec (Cond.code my_Mo_beat mb_Mo_beat 5 none :: vTB) mrm_Mo_beat).room s m ([.ref (ad 0 0), .int (1 : Int32)] : List Value).toArray below meth c H locs 0 0 (MQ below (fw_Qv D vcls mCL cA mkd ad (mI b) (mf_Mo_beat_1 v0)) ([.ref (ad 0 0), .int (1 : Int32)] : List Value).toArray s 0 0 (fw_A mCL ad)) (F0 m 59 ls []) := by
    intro v  H locs ls hj  hI hP hS hl
    clear J25 J24 J23 J22 J27 J26 J21 J20 J19 J18 J29 J28 J17 J16 J15 J14 J31 J30 J13 J12 J11 J33
    refine lv_iload_n hx hb md_Mo_beat_59 rfl (lv_at hl 2 rfl) ?_
    refine lv_bipush (v := (6 : Int32)) hx hb md_Mo_beat_60 (by decide) ?_
    refine lv_icmp_ge (tgt := 148) hx hb md_Mo_beat_62 (by decide) (fun c_23 => absurd c_23 (by decide)) (fun _ => ?_)
    refine lv_aload_n hx hb md_Mo_beat_65 rfl (lv_at hl 0 rfl) ?_
    refine fw_getr hx hb hts i_Mo hown hK hP (mm_0 (by decide)) (mk_0 0) rfl 23 (by decide) (hts _ L_Mo_77) (fun _ h9 => h9) rfl md_Mo_beat_66 ?_
    refine lv_iconst (v := (3 : Int32)) hx hb md_Mo_beat_69 (by decide) ?_
    refine lv_iload_n hx hb md_Mo_beat_70 rfl (lv_at hl 1 rfl) ?_
    refine lv_imul hx hb md_Mo_beat_71 ?_
    refine fw_top (y := (3 : Int32)) (by decide) ?_
    refine lv_iload_n hx hb md_Mo_beat_72 rfl (lv_at hl 2 rfl) ?_
    refine lv_iconst (v := (2 : Int32)) hx hb md_Mo_beat_73 (by decide) ?_
    refine lv_idiv hx hb md_Mo_beat_74 (by decide) ?_
    refine fw_top (y := (1 : Int32)) (by decide) ?_
    refine lv_iadd hx hb md_Mo_beat_75 ?_
    refine fw_top (y := (4 : Int32)) (by decide) ?_
    refine fw_iald hx hb hK hP (mm_24 (by decide)) (mk_24 0) 0 rfl (j := 4) (by decide) (fw_inc (by decide)) md_Mo_beat_76 ?_
    have h_24 : vp_in ((v 24 0 4) + 1) 9 := hI.1 24 0 (4)
    refine lv_istore_n (lv' := [(3, .int (v 24 0 4)), (0, .ref (ad 0 0)), (1, .int (1 : Int32)), (2, .int (2 : Int32))]) hx hb md_Mo_beat_77 rfl hl (by decide) rfl (fun ls hl => ?_)
    refine lv_iload_n hx hb md_Mo_beat_78 rfl (lv_at hl 0 rfl) ?_
    refine lv_if_lt (tgt := 113) hx hb md_Mo_beat_79 (by decide) (fun c_25 => ?_) (fun c_25 => ?_)
    · exact J10 v  _ _ _ (by rw [hj]; simp only [mf_Mo_beat_1_j9, if_pos c_25])   hI hP hS (lv_sub hl [1, 2, 3] rfl)
    · have h_61 : vp_in (v 24 0 4) 8 := fw_m8 h_24 c_25
      refine lv_aload_n hx hb md_Mo_beat_82 rfl (lv_at hl 1 rfl) ?_
      refine fw_getr hx hb hts i_Mo hown hK hP (mm_0 (by decide)) (mk_0 0) rfl 15 (by decide) (hts _ L_Mo_53) (fun _ h9 => h9) rfl md_Mo_beat_83 ?_
      refine lv_iload_n hx hb md_Mo_beat_86 rfl (lv_at hl 2 rfl) ?_
      refine fw_iald hx hb hK hP (mm_16 (by decide)) (mk_16 0) 0 rfl (j := 1) (by decide) (fw_inc (by decide)) md_Mo_beat_87 ?_
      refine lv_iload_n hx hb md_Mo_beat_88 rfl (lv_at hl 3 rfl) ?_
      refine lv_iconst (v := (2 : Int32)) hx hb md_Mo_beat_89 (by decide) ?_
      refine lv_idiv hx hb md_Mo_beat_90 (by decide) ?_
      refine fw_top (y := (1 : Int32)) (by decide) ?_
      refine lv_ishr hx hb md_Mo_beat_91 ?_
      refine lv_iconst (v := (1 : Int32)) hx hb md_Mo_beat_92 (by decide) ?_
      refine lv_iand hx hb md_Mo_beat_93 ?_
      refine lv_if_ne (tgt := 113) hx hb md_Mo_beat_94 (by decide) (fun c_62 => ?_) (fun c_62 => ?_)
      · exact J10 v  _ _ _ (by rw [hj]; simp only [mf_Mo_beat_1_j9, if_neg c_25, if_neg c_62])   hI hP hS (lv_sub hl [1, 2, 3] rfl)
      · refine lv_iload_n hx hb md_Mo_beat_97 rfl (lv_at hl 3 rfl) ?_
        refine lv_iconst (v := (2 : Int32)) hx hb md_Mo_beat_98 (by decide) ?_
        refine lv_irem hx hb md_Mo_beat_99 (by decide) ?_
        refine fw_top (y := (0 : Int32)) (by decide) ?_
        refine lv_aload_n hx hb md_Mo_beat_100 rfl (lv_at hl 1 rfl) ?_
        refine fw_getr hx hb hts i_Mo hown hK hP (mm_0 (by decide)) (mk_0 0) rfl 1 (by decide) (hts _ L_Mo_13) (fun _ h9 => h9) rfl md_Mo_beat_101 ?_
        refine lv_iload_n hx hb md_Mo_beat_104 rfl (lv_at hl 0 rfl) ?_
        refine fw_iald hx hb hK hP (mm_2 (by decide)) (mk_2 0) 0 rfl (j := (v 24 0 4).toNatClampNeg) rfl h_61 md_Mo_beat_105 ?_
        refine lv_icmp_ge (tgt := 113) hx hb md_Mo_beat_106 (by decide) (fun c_63 => ?_) (fun c_63 => ?_)
        · exact J10 v  _ _ _ (by rw [hj]; simp only [mf_Mo_beat_1_j9, if_neg c_25, if_pos c_62, if_pos c_63])   hI hP hS (lv_sub hl [1, 2, 3] rfl)
        · refine lv_iconst (v := (1 : Int32)) hx hb md_Mo_beat_109 (by decide) ?_
          refine lv_goto (tgt := 114) hx hb md_Mo_beat_110 (by decide) ?_
          exact J32 v  _ _ _ (by rw [hj]; simp only [mf_Mo_beat_1_j9, if_neg c_25, if_pos c_62, if_neg c_63])   hI hP hS (lv_sub hl [1, 2, 3] rfl)
  have J8 : ∀ (v : fw_V)  (H : Heap) (locs : List Loc) (ls : Array Slot), mf_Mo_beat_1 v0 = mf_Mo_beat_1_j8 v → mI b v → va_P D vcls (fw_w mCL cA mkd ad v) H → va_S (fw_A mCL ad) s.heap H locs → lv_has ls 5 [(0, .ref (ad 0 0)), (1, .int (1 : Int32)), (2, .int (1 : Int32))] → W p l e (headSpec (Cond.code my_Mo_beat mb_Mo_beat 5 none :: vTB) mrm_Mo_beat).room s m ([.ref (ad 0 0), .int (1 : Int32)] : List Value).toArray below meth c H locs 0 0 (MQ below (fw_Qv D vcls mCL cA mkd ad (mI b) (mf_Mo_beat_1 v0)) ([.ref (ad 0 0), .int (1 : Int32)] : List Value).toArray s 0 0 (fw_A mCL ad)) (F0 m 141 ls [.int (0 : Int32), .int (1 : Int32), .ref (ad 9 0)]) := by
    intro v  H locs ls hj  hI hP hS hl
    clear J25 J24 J23 J22 J27 J26 J21 J20 J19 J18 J29 J28 J17 J16 J15 J14 J31 J30 J13 J12 J11 J10 J33 J32
    refine fw_iast hx hb hK hD hP hS (mm_9 (by decide)) (mk_9 0) 0 rfl (j := 1) (by decide) (fw_inc (by decide)) md_Mo_beat_141 (fun v22 H locs ev22 hP hS => ?_)
    have hI : mI b v22 := by rw [ev22]; exact mI_up hI trivial trivial
    refine lv_iinc (v := (2 : Int32)) (lv' := [(2, .int (2 : Int32)), (0, .ref (ad 0 0)), (1, .int (1 : Int32))]) hx hb md_Mo_beat_142 hl (k := 2) rfl (by decide) (by decide) rfl (fun ls hl => ?_)
    refine lv_goto (tgt := 59) hx hb md_Mo_beat_145 (by decide) ?_
    exact J9 v22  _ _ _ (by rw [hj]; subst ev22; simp only [mf_Mo_beat_1_j8])   hI hP hS (lv_sub hl [1, 2, 0] rfl)
  have J7 : ∀ (v : fw_V)  (H : Heap) (locs : List Loc) (ls : Array Slot), mf_Mo_beat_1 v0 = mf_Mo_beat_1_j7 v → mI b v → va_P D vcls (fw_w mCL cA mkd ad v) H → va_S (fw_A mCL ad) s.heap H locs → lv_has ls 5 [(0, .ref (ad 0 0)), (1, .int (1 : Int32)), (2, .int (1 : Int32))] → W p l e (headSpec (Cond.code my_Mo_beat mb_Mo_beat 5 none :: vTB) mrm_Mo_beat).room s m ([.ref (ad 0 0), .int (1 : Int32)] : List Value).toArray below meth c H locs 0 0 (MQ below (fw_Qv D vcls mCL cA mkd ad (mI b) (mf_Mo_beat_1 v0)) ([.ref (ad 0 0), .int (1 : Int32)] : List Value).toArray s 0 0 (fw_A mCL ad)) (F0 m 114 ls [.int (0 : Int32)]) := by
    intro v  H locs ls hj  hI hP hS hl
    clear J25 J24 J23 J22 J27 J26 J21 J20 J19 J18 J29 J28 J17 J16 J15 J14 J31 J30 J13 J12 J11 J10 J33 J32 J9
    refine lv_istore (lv' := [(4, .int (0 : Int32)), (0, .ref (ad 0 0)), (1, .int (1 : Int32)), (2, .int (1 : Int32))]) hx hb md_Mo_beat_114 hl (by decide) rfl (fun ls hl => ?_)
    refine lv_aload_n hx hb md_Mo_beat_116 rfl (lv_at hl 1 rfl) ?_
    refine fw_getr hx hb hts i_Mo hown hK hP (mm_0 (by decide)) (mk_0 0) rfl 8 (by decide) (hts _ L_Mo_35) (fun _ h9 => h9) rfl md_Mo_beat_117 ?_
    refine lv_iload_n hx hb md_Mo_beat_120 rfl (lv_at hl 3 rfl) ?_
    refine lv_iload hx hb md_Mo_beat_121 (lv_at hl 0 rfl) ?_
    refine lv_if_eq (tgt := 140) hx hb md_Mo_beat_123 (by decide) (fun _ => ?_) (fun c_21 => absurd (by decide) c_21)
    refine lv_iconst (v := (0 : Int32)) hx hb md_Mo_beat_140 (by decide) ?_
    exact J8 v  _ _ _ (by rw [hj]; simp only [mf_Mo_beat_1_j7])   hI hP hS (lv_sub hl [1, 2, 3] rfl)
  have J6 : ∀ (v : fw_V)  (H : Heap) (locs : List Loc) (ls : Array Slot), mf_Mo_beat_1 v0 = mf_Mo_beat_1_j6 v → mI b v → va_P D vcls (fw_w mCL cA mkd ad v) H → va_S (fw_A mCL ad) s.heap H locs → lv_has ls 5 [(0, .ref (ad 0 0)), (1, .int (1 : Int32)), (2, .int (1 : Int32))] → W p l e (headSpec (Cond.code my_Mo_beat mb_Mo_beat 5 none :: vTB) mrm_Mo_beat).room s m ([.ref (ad 0 0), .int (1 : Int32)] : List Value).toArray below meth c H locs 0 0 (MQ below (fw_Qv D vcls mCL cA mkd ad (mI b) (mf_Mo_beat_1 v0)) ([.ref (ad 0 0), .int (1 : Int32)] : List Value).toArray s 0 0 (fw_A mCL ad)) (F0 m 113 ls []) := by
    intro v  H locs ls hj  hI hP hS hl
    clear J25 J24 J23 J22 J27 J26 J21 J20 J19 J18 J29 J28 J17 J16 J15 J14 J31 J30 J13 J12 J11 J10 J33 J32 J9 J8
    refine lv_iconst (v := (0 : Int32)) hx hb md_Mo_beat_113 (by decide) ?_
    exact J7 v  _ _ _ (by rw [hj]; simp only [mf_Mo_beat_1_j6])   hI hP hS (lv_sub hl [0, 1, 2] rfl)
  have J35 : ∀ (v : fw_V) (x90 : Int32) (H : Heap) (locs : List Loc) (ls : Array Slot), mf_Mo_beat_1 v0 = mf_Mo_beat_1_j35 v x90 → mI b v → va_P D vcls (fw_w mCL cA mkd ad v) H → va_S (fw_A mCL ad) s.heap H locs → lv_has ls 5 [(0, .ref (ad 0 0)), (1, .int (1 : Int32)), (2, .int (1 : Int32))] → W p l e (headSpec (Cond.code my_Mo_beat mb_Mo_beat 5 none :: vTB) mrm_Mo_beat).room s m ([.ref (ad 0 0), .int (1 : Int32)] : List Value).toArray below meth c H locs 0 0 (MQ below (fw_Qv D vcls mCL cA mkd ad (mI b) (mf_Mo_beat_1 v0)) ([.ref (ad 0 0), .int (1 : Int32)] : List Value).toArray s 0 0 (fw_A mCL ad)) (F0 m 141 ls [.int x90, .int (1 : Int32), .ref (ad 9 0)]) := by
    intro v x90 H locs ls hj  hI hP hS hl
    clear J25 J24 J23 J22 J27 J26 J21 J20 J19 J18 J29 J28 J17 J16 J15 J14 J31 J30 J13 J12 J11 J10 J33 J32 J8 J7 J6
    refine fw_iast hx hb hK hD hP hS (mm_9 (by decide)) (mk_9 0) 0 rfl (j := 1) (by decide) (fw_inc (by decide)) md_Mo_beat_141 (fun v70 H locs ev70 hP hS => ?_)
    have hI : mI b v70 := by rw [ev70]; exact mI_up hI trivial trivial
    refine lv_iinc (v := (2 : Int32)) (lv' := [(2, .int (2 : Int32)), (0, .ref (ad 0 0)), (1, .int (1 : Int32))]) hx hb md_Mo_beat_142 hl (k := 2) rfl (by decide) (by decide) rfl (fun ls hl => ?_)
    refine lv_goto (tgt := 59) hx hb md_Mo_beat_145 (by decide) ?_
    exact J9 v70  _ _ _ (by rw [hj]; subst ev70; simp only [mf_Mo_beat_1_j35])   hI hP hS (lv_sub hl [1, 2, 0] rfl)
  have J34 : ∀ (v : fw_V)  (H : Heap) (locs : List Loc) (ls : Array Slot), mf_Mo_beat_1 v0 = mf_Mo_beat_1_j34 v → mI b v → va_P D vcls (fw_w mCL cA mkd ad v) H → va_S (fw_A mCL ad) s.heap H locs → lv_has ls 5 [(0, .ref (ad 0 0)), (1, .int (1 : Int32)), (2, .int (1 : Int32))] → W p l e (headSpec (Cond.code my_Mo_beat mb_Mo_beat 5 none :: vTB) mrm_Mo_beat).room s m ([.ref (ad 0 0), .int (1 : Int32)] : List Value).toArray below meth c H locs 0 0 (MQ below (fw_Qv D vcls mCL cA mkd ad (mI b) (mf_Mo_beat_1 v0)) ([.ref (ad 0 0), .int (1 : Int32)] : List Value).toArray s 0 0 (fw_A mCL ad)) (F0 m 114 ls [.int (1 : Int32)]) := by
    intro v  H locs ls hj  hI hP hS hl
    clear J25 J24 J23 J22 J27 J26 J21 J20 J19 J18 J29 J28 J17 J16 J15 J14 J31 J30 J13 J12 J11 J10 J33 J32 J9 J8 J7 J6
    refine lv_istore (lv' := [(4, .int (1 : Int32)), (0, .ref (ad 0 0)), (1, .int (1 : Int32)), (2, .int (1 : Int32))]) hx hb md_Mo_beat_114 hl (by decide) rfl (fun ls hl => ?_)
    refine lv_aload_n hx hb md_Mo_beat_116 rfl (lv_at hl 1 rfl) ?_
    refine fw_getr hx hb hts i_Mo hown hK hP (mm_0 (by decide)) (mk_0 0) rfl 8 (by decide) (hts _ L_Mo_35) (fun _ h9 => h9) rfl md_Mo_beat_117 ?_
    refine lv_iload_n hx hb md_Mo_beat_120 rfl (lv_at hl 3 rfl) ?_
    refine lv_iload hx hb md_Mo_beat_121 (lv_at hl 0 rfl) ?_
    refine lv_if_eq (tgt := 140) hx hb md_Mo_beat_123 (by decide) (fun c_69 => absurd c_69 (by decide)) (fun _ => ?_)
    refine lv_aload_n hx hb md_Mo_beat_126 rfl (lv_at hl 1 rfl) ?_
    refine fw_getr hx hb hts i_Mo hown hK hP (mm_0 (by decide)) (mk_0 0) rfl 25 (by decide) (hts _ L_Mo_83) (fun _ h9 => h9) rfl md_Mo_beat_127 ?_
    refine lv_bipush (v := (6 : Int32)) hx hb md_Mo_beat_130 (by decide) ?_
    refine lv_iload_n hx hb md_Mo_beat_132 rfl (lv_at hl 2 rfl) ?_
    refine lv_imul hx hb md_Mo_beat_133 ?_
    refine fw_top (y := (6 : Int32)) (by decide) ?_
    refine lv_iload_n hx hb md_Mo_beat_134 rfl (lv_at hl 3 rfl) ?_
    refine lv_iadd hx hb md_Mo_beat_135 ?_
    refine fw_top (y := (7 : Int32)) (by decide) ?_
    refine fw_iald hx hb hK hP (mm_26 (by decide)) (mk_26 0) 0 rfl (j := 7) (by decide) (fw_inc (by decide)) md_Mo_beat_136 ?_
    refine lv_goto (tgt := 141) hx hb md_Mo_beat_137 (by decide) ?_
    exact J35 v ((v 26 0 7)) _ _ _ (by rw [hj]; simp only [mf_Mo_beat_1_j34])   hI hP hS (lv_sub hl [1, 2, 3] rfl)
  have J5 : ∀ (v : fw_V)  (H : Heap) (locs : List Loc) (ls : Array Slot), mf_Mo_beat_1 v0 = mf_Mo_beat_1_j5 v → mI b v → va_P D vcls (fw_w mCL cA mkd ad v) H → va_S (fw_A mCL ad) s.heap H locs → lv_has ls 5 [(0, .ref (ad 0 0)), (1, .int (1 : Int32)), (2, .int (1 : Int32))] → W p l e (headSpec (Cond.code my_Mo_beat mb_Mo_beat 5 none :: vTB) mrm_Mo_beat).room s m ([.ref (ad 0 0), .int (1 : Int32)] : List Value).toArray below meth c H locs 0 0 (MQ below (fw_Qv D vcls mCL cA mkd ad (mI b) (mf_Mo_beat_1 v0)) ([.ref (ad 0 0), .int (1 : Int32)] : List Value).toArray s 0 0 (fw_A mCL ad)) (F0 m 59 ls []) := by
    intro v  H locs ls hj  hI hP hS hl
    clear J25 J24 J23 J22 J27 J26 J21 J20 J19 J18 J29 J28 J17 J16 J15 J14 J31 J30 J13 J12 J11 J10 J33 J32 J9 J8 J7 J35
    refine lv_iload_n hx hb md_Mo_beat_59 rfl (lv_at hl 2 rfl) ?_
    refine lv_bipush (v := (6 : Int32)) hx hb md_Mo_beat_60 (by decide) ?_
    refine lv_icmp_ge (tgt := 148) hx hb md_Mo_beat_62 (by decide) (fun c_18 => absurd c_18 (by decide)) (fun _ => ?_)
    refine lv_aload_n hx hb md_Mo_beat_65 rfl (lv_at hl 0 rfl) ?_
    refine fw_getr hx hb hts i_Mo hown hK hP (mm_0 (by decide)) (mk_0 0) rfl 23 (by decide) (hts _ L_Mo_77) (fun _ h9 => h9) rfl md_Mo_beat_66 ?_
    refine lv_iconst (v := (3 : Int32)) hx hb md_Mo_beat_69 (by decide) ?_
    refine lv_iload_n hx hb md_Mo_beat_70 rfl (lv_at hl 1 rfl) ?_
    refine lv_imul hx hb md_Mo_beat_71 ?_
    refine fw_top (y := (3 : Int32)) (by decide) ?_
    refine lv_iload_n hx hb md_Mo_beat_72 rfl (lv_at hl 2 rfl) ?_
    refine lv_iconst (v := (2 : Int32)) hx hb md_Mo_beat_73 (by decide) ?_
    refine lv_idiv hx hb md_Mo_beat_74 (by decide) ?_
    refine fw_top (y := (0 : Int32)) (by decide) ?_
    refine lv_iadd hx hb md_Mo_beat_75 ?_
    refine fw_top (y := (3 : Int32)) (by decide) ?_
    refine fw_iald hx hb hK hP (mm_24 (by decide)) (mk_24 0) 0 rfl (j := 3) (by decide) (fw_inc (by decide)) md_Mo_beat_76 ?_
    have h_19 : vp_in ((v 24 0 3) + 1) 9 := hI.1 24 0 (3)
    refine lv_istore_n (lv' := [(3, .int (v 24 0 3)), (0, .ref (ad 0 0)), (1, .int (1 : Int32)), (2, .int (1 : Int32))]) hx hb md_Mo_beat_77 rfl hl (by decide) rfl (fun ls hl => ?_)
    refine lv_iload_n hx hb md_Mo_beat_78 rfl (lv_at hl 0 rfl) ?_
    refine lv_if_lt (tgt := 113) hx hb md_Mo_beat_79 (by decide) (fun c_20 => ?_) (fun c_20 => ?_)
    · exact J6 v  _ _ _ (by rw [hj]; simp only [mf_Mo_beat_1_j5, if_pos c_20])   hI hP hS (lv_sub hl [1, 2, 3] rfl)
    · have h_66 : vp_in (v 24 0 3) 8 := fw_m8 h_19 c_20
      refine lv_aload_n hx hb md_Mo_beat_82 rfl (lv_at hl 1 rfl) ?_
      refine fw_getr hx hb hts i_Mo hown hK hP (mm_0 (by decide)) (mk_0 0) rfl 15 (by decide) (hts _ L_Mo_53) (fun _ h9 => h9) rfl md_Mo_beat_83 ?_
      refine lv_iload_n hx hb md_Mo_beat_86 rfl (lv_at hl 2 rfl) ?_
      refine fw_iald hx hb hK hP (mm_16 (by decide)) (mk_16 0) 0 rfl (j := 1) (by decide) (fw_inc (by decide)) md_Mo_beat_87 ?_
      refine lv_iload_n hx hb md_Mo_beat_88 rfl (lv_at hl 3 rfl) ?_
      refine lv_iconst (v := (2 : Int32)) hx hb md_Mo_beat_89 (by decide) ?_
      refine lv_idiv hx hb md_Mo_beat_90 (by decide) ?_
      refine fw_top (y := (0 : Int32)) (by decide) ?_
      refine lv_ishr hx hb md_Mo_beat_91 ?_
      refine lv_iconst (v := (1 : Int32)) hx hb md_Mo_beat_92 (by decide) ?_
      refine lv_iand hx hb md_Mo_beat_93 ?_
      refine lv_if_ne (tgt := 113) hx hb md_Mo_beat_94 (by decide) (fun c_67 => ?_) (fun c_67 => ?_)
      · exact J6 v  _ _ _ (by rw [hj]; simp only [mf_Mo_beat_1_j5, if_neg c_20, if_neg c_67])   hI hP hS (lv_sub hl [1, 2, 3] rfl)
      · refine lv_iload_n hx hb md_Mo_beat_97 rfl (lv_at hl 3 rfl) ?_
        refine lv_iconst (v := (2 : Int32)) hx hb md_Mo_beat_98 (by decide) ?_
        refine lv_irem hx hb md_Mo_beat_99 (by decide) ?_
        refine fw_top (y := (1 : Int32)) (by decide) ?_
        refine lv_aload_n hx hb md_Mo_beat_100 rfl (lv_at hl 1 rfl) ?_
        refine fw_getr hx hb hts i_Mo hown hK hP (mm_0 (by decide)) (mk_0 0) rfl 1 (by decide) (hts _ L_Mo_13) (fun _ h9 => h9) rfl md_Mo_beat_101 ?_
        refine lv_iload_n hx hb md_Mo_beat_104 rfl (lv_at hl 0 rfl) ?_
        refine fw_iald hx hb hK hP (mm_2 (by decide)) (mk_2 0) 0 rfl (j := (v 24 0 3).toNatClampNeg) rfl h_66 md_Mo_beat_105 ?_
        refine lv_icmp_ge (tgt := 113) hx hb md_Mo_beat_106 (by decide) (fun c_68 => ?_) (fun c_68 => ?_)
        · exact J6 v  _ _ _ (by rw [hj]; simp only [mf_Mo_beat_1_j5, if_neg c_20, if_pos c_67, if_pos c_68])   hI hP hS (lv_sub hl [1, 2, 3] rfl)
        · refine lv_iconst (v := (1 : Int32)) hx hb md_Mo_beat_109 (by decide) ?_
          refine lv_goto (tgt := 114) hx hb md_Mo_beat_110 (by decide) ?_
          exact J34 v  _ _ _ (by rw [hj]; simp only [mf_Mo_beat_1_j5, if_neg c_20, if_pos c_67, if_neg c_68])   hI hP hS (lv_sub hl [1, 2, 3] rfl)
  have J4 : ∀ (v : fw_V)  (H : Heap) (locs : List Loc) (ls : Array Slot), mf_Mo_beat_1 v0 = mf_Mo_beat_1_j4 v → mI b v → va_P D vcls (fw_w mCL cA mkd ad v) H → va_S (fw_A mCL ad) s.heap H locs → lv_has ls 5 [(0, .ref (ad 0 0)), (1, .int (1 : Int32)), (2, .int (0 : Int32))] → W p l e (headSpec (Cond.code my_Mo_beat mb_Mo_beat 5 none :: vTB) mrm_Mo_beat).room s m ([.ref (ad 0 0), .int (1 : Int32)] : List Value).toArray below meth c H locs 0 0 (MQ below (fw_Qv D vcls mCL cA mkd ad (mI b) (mf_Mo_beat_1 v0)) ([.ref (ad 0 0), .int (1 : Int32)] : List Value).toArray s 0 0 (fw_A mCL ad)) (F0 m 141 ls [.int (0 : Int32), .int (0 : Int32), .ref (ad 9 0)]) := by
    intro v  H locs ls hj  hI hP hS hl
    clear J25 J24 J23 J22 J27 J26 J21 J20 J19 J18 J29 J28 J17 J16 J15 J14 J31 J30 J13 J12 J11 J10 J33 J32 J9 J8 J7 J6 J35 J34
    refine fw_iast hx hb hK hD hP hS (mm_9 (by decide)) (mk_9 0) 0 rfl (j := 0) (by decide) (fw_inc (by decide)) md_Mo_beat_141 (fun v17 H locs ev17 hP hS => ?_)
    have hI : mI b v17 := by rw [ev17]; exact mI_up hI trivial trivial
    refine lv_iinc (v := (1 : Int32)) (lv' := [(2, .int (1 : Int32)), (0, .ref (ad 0 0)), (1, .int (1 : Int32))]) hx hb md_Mo_beat_142 hl (k := 2) rfl (by decide) (by decide) rfl (fun ls hl => ?_)
    refine lv_goto (tgt := 59) hx hb md_Mo_beat_145 (by decide) ?_
    exact J5 v17  _ _ _ (by rw [hj]; subst ev17; simp only [mf_Mo_beat_1_j4])   hI hP hS (lv_sub hl [1, 2, 0] rfl)
  have J3 : ∀ (v : fw_V)  (H : Heap) (locs : List Loc) (ls : Array Slot), mf_Mo_beat_1 v0 = mf_Mo_beat_1_j3 v → mI b v → va_P D vcls (fw_w mCL cA mkd ad v) H → va_S (fw_A mCL ad) s.heap H locs → lv_has ls 5 [(0, .ref (ad 0 0)), (1, .int (1 : Int32)), (2, .int (0 : Int32))] → W p l e (headSpec (Cond.code my_Mo_beat mb_Mo_beat 5 none :: vTB) mrm_Mo_beat).room s m ([.ref (ad 0 0), .int (1 : Int32)] : List Value).toArray below meth c H locs 0 0 (MQ below (fw_Qv D vcls mCL cA mkd ad (mI b) (mf_Mo_beat_1 v0)) ([.ref (ad 0 0), .int (1 : Int32)] : List Value).toArray s 0 0 (fw_A mCL ad)) (F0 m 114 ls [.int (0 : Int32)]) := by
    intro v  H locs ls hj  hI hP hS hl
    clear J25 J24 J23 J22 J27 J26 J21 J20 J19 J18 J29 J28 J17 J16 J15 J14 J31 J30 J13 J12 J11 J10 J33 J32 J9 J8 J7 J6 J35 J34 J5
    refine lv_istore (lv' := [(4, .int (0 : Int32)), (0, .ref (ad 0 0)), (1, .int (1 : Int32)), (2, .int (0 : Int32))]) hx hb md_Mo_beat_114 hl (by decide) rfl (fun ls hl => ?_)
    refine lv_aload_n hx hb md_Mo_beat_116 rfl (lv_at hl 1 rfl) ?_
    refine fw_getr hx hb hts i_Mo hown hK hP (mm_0 (by decide)) (mk_0 0) rfl 8 (by decide) (hts _ L_Mo_35) (fun _ h9 => h9) rfl md_Mo_beat_117 ?_
    refine lv_iload_n hx hb md_Mo_beat_120 rfl (lv_at hl 3 rfl) ?_
    refine lv_iload hx hb md_Mo_beat_121 (lv_at hl 0 rfl) ?_
    refine lv_if_eq (tgt := 140) hx hb md_Mo_beat_123 (by decide) (fun _ => ?_) (fun c_16 => absurd (by decide) c_16)
    refine lv_iconst (v := (0 : Int32)) hx hb md_Mo_beat_140 (by decide) ?_
    exact J4 v  _ _ _ (by rw [hj]; simp only [mf_Mo_beat_1_j3])   hI hP hS (lv_sub hl [1, 2, 3] rfl)
  have J2 : ∀ (v : fw_V)  (H : Heap) (locs : List Loc) (ls : Array Slot), mf_Mo_beat_1 v0 = mf_Mo_beat_1_j2 v → mI b v → va_P D vcls (fw_w mCL cA mkd ad v) H → va_S (fw_A mCL ad) s.heap H locs → lv_has ls 5 [(0, .ref (ad 0 0)), (1, .int (1 : Int32)), (2, .int (0 : Int32))] → W p l e (headSpec (Cond.code my_Mo_beat mb_Mo_beat 5 none :: vTB) mrm_Mo_beat).room s m ([.ref (ad 0 0), .int (1 : Int32)] : List Value).toArray below meth c H locs 0 0 (MQ below (fw_Qv D vcls mCL cA mkd ad (mI b) (mf_Mo_beat_1 v0)) ([.ref (ad 0 0), .int (1 : Int32)] : List Value).toArray s 0 0 (fw_A mCL ad)) (F0 m 113 ls []) := by
    intro v  H locs ls hj  hI hP hS hl
    clear J25 J24 J23 J22 J27 J26 J21 J20 J19 J18 J29 J28 J17 J16 J15 J14 J31 J30 J13 J12 J11 J10 J33 J32 J9 J8 J7 J6 J35 J34 J5 J4
    refine lv_iconst (v := (0 : Int32)) hx hb md_Mo_beat_113 (by decide) ?_
    exact J3 v  _ _ _ (by rw [hj]; simp only [mf_Mo_beat_1_j2])   hI hP hS (lv_sub hl [0, 1, 2] rfl)
  have J37 : ∀ (v : fw_V) (x90 : Int32) (H : Heap) (locs : List Loc) (ls : Array Slot), mf_Mo_beat_1 v0 = mf_Mo_beat_1_j37 v x90 → mI b v → va_P D vcls (fw_w mCL cA mkd ad v) H → va_S (fw_A mCL ad) s.heap H locs → lv_has ls 5 [(0, .ref (ad 0 0)), (1, .int (1 : Int32)), (2, .int (0 : Int32))] → W p l e (headSpec (Cond.code my_Mo_beat mb_Mo_beat 5 none :: vTB) mrm_Mo_beat).room s m ([.ref (ad 0 0), .int (1 : Int32)] : List Value).toArray below meth c H locs 0 0 (MQ below (fw_Qv D vcls mCL cA mkd ad (mI b) (mf_Mo_beat_1 v0)) ([.ref (ad 0 0), .int (1 : Int32)] : List Value).toArray s 0 0 (fw_A mCL ad)) (F0 m 141 ls [.int x90, .int (0 : Int32), .ref (ad 9 0)]) := by
    intro v x90 H locs ls hj  hI hP hS hl
    clear J25 J24 J23 J22 J27 J26 J21 J20 J19 J18 J29 J28 J17 J16 J15 J14 J31 J30 J13 J12 J11 J10 J33 J32 J9 J8 J7 J6 J35 J34 J4 J3 J2
    refine fw_iast hx hb hK hD hP hS (mm_9 (by decide)) (mk_9 0) 0 rfl (j := 0) (by decide) (fw_inc (by decide)) md_Mo_beat_141 (fun v75 H locs ev75 hP hS => ?_)
    have hI : mI b v75 := by rw [ev75]; exact mI_up hI trivial trivial
    refine lv_iinc (v := (1 : Int32)) (lv' := [(2, .int (1 : Int32)), (0, .ref (ad 0 0)), (1, .int (1 : Int32))]) hx hb md_Mo_beat_142 hl (k := 2) rfl (by decide) (by decide) rfl (fun ls hl => ?_)
    refine lv_goto (tgt := 59) hx hb md_Mo_beat_145 (by decide) ?_
    exact J5 v75  _ _ _ (by rw [hj]; subst ev75; simp only [mf_Mo_beat_1_j37])   hI hP hS (lv_sub hl [1, 2, 0] rfl)
  have J36 : ∀ (v : fw_V)  (H : Heap) (locs : List Loc) (ls : Array Slot), mf_Mo_beat_1 v0 = mf_Mo_beat_1_j36 v → mI b v → va_P D vcls (fw_w mCL cA mkd ad v) H → va_S (fw_A mCL ad) s.heap H locs → lv_has ls 5 [(0, .ref (ad 0 0)), (1, .int (1 : Int32)), (2, .int (0 : Int32))] → W p l e (headSpec (Cond.code my_Mo_beat mb_Mo_beat 5 none :: vTB) mrm_Mo_beat).room s m ([.ref (ad 0 0), .int (1 : Int32)] : List Value).toArray below meth c H locs 0 0 (MQ below (fw_Qv D vcls mCL cA mkd ad (mI b) (mf_Mo_beat_1 v0)) ([.ref (ad 0 0), .int (1 : Int32)] : List Value).toArray s 0 0 (fw_A mCL ad)) (F0 m 114 ls [.int (1 : Int32)]) := by
    intro v  H locs ls hj  hI hP hS hl
    clear J25 J24 J23 J22 J27 J26 J21 J20 J19 J18 J29 J28 J17 J16 J15 J14 J31 J30 J13 J12 J11 J10 J33 J32 J9 J8 J7 J6 J35 J34 J5 J4 J3 J2
    refine lv_istore (lv' := [(4, .int (1 : Int32)), (0, .ref (ad 0 0)), (1, .int (1 : Int32)), (2, .int (0 : Int32))]) hx hb md_Mo_beat_114 hl (by decide) rfl (fun ls hl => ?_)
    refine lv_aload_n hx hb md_Mo_beat_116 rfl (lv_at hl 1 rfl) ?_
    refine fw_getr hx hb hts i_Mo hown hK hP (mm_0 (by decide)) (mk_0 0) rfl 8 (by decide) (hts _ L_Mo_35) (fun _ h9 => h9) rfl md_Mo_beat_117 ?_
    refine lv_iload_n hx hb md_Mo_beat_120 rfl (lv_at hl 3 rfl) ?_
    refine lv_iload hx hb md_Mo_beat_121 (lv_at hl 0 rfl) ?_
    refine lv_if_eq (tgt := 140) hx hb md_Mo_beat_123 (by decide) (fun c_74 => absurd c_74 (by decide)) (fun _ => ?_)
    refine lv_aload_n hx hb md_Mo_beat_126 rfl (lv_at hl 1 rfl) ?_
    refine fw_getr hx hb hts i_Mo hown hK hP (mm_0 (by decide)) (mk_0 0) rfl 25 (by decide) (hts _ L_Mo_83) (fun _ h9 => h9) rfl md_Mo_beat_127 ?_
    refine lv_bipush (v := (6 : Int32)) hx hb md_Mo_beat_130 (by decide) ?_
    refine lv_iload_n hx hb md_Mo_beat_132 rfl (lv_at hl 2 rfl) ?_
    refine lv_imul hx hb md_Mo_beat_133 ?_
    refine fw_top (y := (6 : Int32)) (by decide) ?_
    refine lv_iload_n hx hb md_Mo_beat_134 rfl (lv_at hl 3 rfl) ?_
    refine lv_iadd hx hb md_Mo_beat_135 ?_
    refine fw_top (y := (6 : Int32)) (by decide) ?_
    refine fw_iald hx hb hK hP (mm_26 (by decide)) (mk_26 0) 0 rfl (j := 6) (by decide) (fw_inc (by decide)) md_Mo_beat_136 ?_
    refine lv_goto (tgt := 141) hx hb md_Mo_beat_137 (by decide) ?_
    exact J37 v ((v 26 0 6)) _ _ _ (by rw [hj]; simp only [mf_Mo_beat_1_j36])   hI hP hS (lv_sub hl [1, 2, 3] rfl)
  have J1 : ∀ (v : fw_V)  (H : Heap) (locs : List Loc) (ls : Array Slot), mf_Mo_beat_1 v0 = mf_Mo_beat_1_j1 v → mI b v → va_P D vcls (fw_w mCL cA mkd ad v) H → va_S (fw_A mCL ad) s.heap H locs → lv_has ls 5 [(0, .ref (ad 0 0)), (1, .int (1 : Int32)), (2, .int (0 : Int32))] → W p l e (headSpec (Cond.code my_Mo_beat mb_Mo_beat 5 none :: vTB) mrm_Mo_beat).room s m ([.ref (ad 0 0), .int (1 : Int32)] : List Value).toArray below meth c H locs 0 0 (MQ below (fw_Qv D vcls mCL cA mkd ad (mI b) (mf_Mo_beat_1 v0)) ([.ref (ad 0 0), .int (1 : Int32)] : List Value).toArray s 0 0 (fw_A mCL ad)) (F0 m 59 ls []) := by
    intro v  H locs ls hj  hI hP hS hl
    clear J25 J24 J23 J22 J27 J26 J21 J20 J19 J18 J29 J28 J17 J16 J15 J14 J31 J30 J13 J12 J11 J10 J33 J32 J9 J8 J7 J6 J35 J34 J5 J4 J3 J37
    refine lv_iload_n hx hb md_Mo_beat_59 rfl (lv_at hl 2 rfl) ?_
    refine lv_bipush (v := (6 : Int32)) hx hb md_Mo_beat_60 (by decide) ?_
    refine lv_icmp_ge (tgt := 148) hx hb md_Mo_beat_62 (by decide) (fun c_13 => absurd c_13 (by decide)) (fun _ => ?_)
    refine lv_aload_n hx hb md_Mo_beat_65 rfl (lv_at hl 0 rfl) ?_
    refine fw_getr hx hb hts i_Mo hown hK hP (mm_0 (by decide)) (mk_0 0) rfl 23 (by decide) (hts _ L_Mo_77) (fun _ h9 => h9) rfl md_Mo_beat_66 ?_
    refine lv_iconst (v := (3 : Int32)) hx hb md_Mo_beat_69 (by decide) ?_
    refine lv_iload_n hx hb md_Mo_beat_70 rfl (lv_at hl 1 rfl) ?_
    refine lv_imul hx hb md_Mo_beat_71 ?_
    refine fw_top (y := (3 : Int32)) (by decide) ?_
    refine lv_iload_n hx hb md_Mo_beat_72 rfl (lv_at hl 2 rfl) ?_
    refine lv_iconst (v := (2 : Int32)) hx hb md_Mo_beat_73 (by decide) ?_
    refine lv_idiv hx hb md_Mo_beat_74 (by decide) ?_
    refine fw_top (y := (0 : Int32)) (by decide) ?_
    refine lv_iadd hx hb md_Mo_beat_75 ?_
    refine fw_top (y := (3 : Int32)) (by decide) ?_
    refine fw_iald hx hb hK hP (mm_24 (by decide)) (mk_24 0) 0 rfl (j := 3) (by decide) (fw_inc (by decide)) md_Mo_beat_76 ?_
    have h_14 : vp_in ((v 24 0 3) + 1) 9 := hI.1 24 0 (3)
    refine lv_istore_n (lv' := [(3, .int (v 24 0 3)), (0, .ref (ad 0 0)), (1, .int (1 : Int32)), (2, .int (0 : Int32))]) hx hb md_Mo_beat_77 rfl hl (by decide) rfl (fun ls hl => ?_)
    refine lv_iload_n hx hb md_Mo_beat_78 rfl (lv_at hl 0 rfl) ?_
    refine lv_if_lt (tgt := 113) hx hb md_Mo_beat_79 (by decide) (fun c_15 => ?_) (fun c_15 => ?_)
    · exact J2 v  _ _ _ (by rw [hj]; simp only [mf_Mo_beat_1_j1, if_pos c_15])   hI hP hS (lv_sub hl [1, 2, 3] rfl)
    · have h_71 : vp_in (v 24 0 3) 8 := fw_m8 h_14 c_15
      refine lv_aload_n hx hb md_Mo_beat_82 rfl (lv_at hl 1 rfl) ?_
      refine fw_getr hx hb hts i_Mo hown hK hP (mm_0 (by decide)) (mk_0 0) rfl 15 (by decide) (hts _ L_Mo_53) (fun _ h9 => h9) rfl md_Mo_beat_83 ?_
      refine lv_iload_n hx hb md_Mo_beat_86 rfl (lv_at hl 2 rfl) ?_
      refine fw_iald hx hb hK hP (mm_16 (by decide)) (mk_16 0) 0 rfl (j := 1) (by decide) (fw_inc (by decide)) md_Mo_beat_87 ?_
      refine lv_iload_n hx hb md_Mo_beat_88 rfl (lv_at hl 3 rfl) ?_
      refine lv_iconst (v := (2 : Int32)) hx hb md_Mo_beat_89 (by decide) ?_
      refine lv_idiv hx hb md_Mo_beat_90 (by decide) ?_
      refine fw_top (y := (0 : Int32)) (by decide) ?_
      refine lv_ishr hx hb md_Mo_beat_91 ?_
      refine lv_iconst (v := (1 : Int32)) hx hb md_Mo_beat_92 (by decide) ?_
      refine lv_iand hx hb md_Mo_beat_93 ?_
      refine lv_if_ne (tgt := 113) hx hb md_Mo_beat_94 (by decide) (fun c_72 => ?_) (fun c_72 => ?_)
      · exact J2 v  _ _ _ (by rw [hj]; simp only [mf_Mo_beat_1_j1, if_neg c_15, if_neg c_72])   hI hP hS (lv_sub hl [1, 2, 3] rfl)
      · refine lv_iload_n hx hb md_Mo_beat_97 rfl (lv_at hl 3 rfl) ?_
        refine lv_iconst (v := (2 : Int32)) hx hb md_Mo_beat_98 (by decide) ?_
        refine lv_irem hx hb md_Mo_beat_99 (by decide) ?_
        refine fw_top (y := (0 : Int32)) (by decide) ?_
        refine lv_aload_n hx hb md_Mo_beat_100 rfl (lv_at hl 1 rfl) ?_
        refine fw_getr hx hb hts i_Mo hown hK hP (mm_0 (by decide)) (mk_0 0) rfl 1 (by decide) (hts _ L_Mo_13) (fun _ h9 => h9) rfl md_Mo_beat_101 ?_
        refine lv_iload_n hx hb md_Mo_beat_104 rfl (lv_at hl 0 rfl) ?_
        refine fw_iald hx hb hK hP (mm_2 (by decide)) (mk_2 0) 0 rfl (j := (v 24 0 3).toNatClampNeg) rfl h_71 md_Mo_beat_105 ?_
        refine lv_icmp_ge (tgt := 113) hx hb md_Mo_beat_106 (by decide) (fun c_73 => ?_) (fun c_73 => ?_)
        · exact J2 v  _ _ _ (by rw [hj]; simp only [mf_Mo_beat_1_j1, if_neg c_15, if_pos c_72, if_pos c_73])   hI hP hS (lv_sub hl [1, 2, 3] rfl)
        · refine lv_iconst (v := (1 : Int32)) hx hb md_Mo_beat_109 (by decide) ?_
          refine lv_goto (tgt := 114) hx hb md_Mo_beat_110 (by decide) ?_
          exact J36 v  _ _ _ (by rw [hj]; simp only [mf_Mo_beat_1_j1, if_neg c_15, if_pos c_72, if_neg c_73])   hI hP hS (lv_sub hl [1, 2, 3] rfl)
  clear J25 J24 J23 J22 J27 J26 J21 J20 J19 J18 J29 J28 J17 J16 J15 J14 J31 J30 J13 J12 J11 J10 J33 J32 J9 J8 J7 J6 J35 J34 J5 J4 J3 J2 J37 J36
  have hl := lv_entry ([.ref (ad 0 0), .int (1 : Int32)]) (n := 5) (Nat.le_of_ble_eq_true rfl)
  rw [lg_entry_eq]
  generalize (lg_sl ([.ref (ad 0 0), .int (1 : Int32)]) ++ List.replicate (5 - (lg_sl ([.ref (ad 0 0), .int (1 : Int32)])).length) Slot.unset).toArray = ls at hl ⊢
  have hl : lv_has ls 5 [(0, .ref (ad 0 0)), (1, .int (1 : Int32))] := hl
  refine lv_aload_n hx hb md_Mo_beat_0 rfl (lv_at hl 0 rfl) ?_
  refine fw_getr hx hb hts i_Mo hown hK hP (mm_0 (by decide)) (mk_0 0) rfl 11 (by decide) (hts _ L_Mo_41) (fun _ h9 => h9) rfl md_Mo_beat_1 ?_
  refine lv_iload_n hx hb md_Mo_beat_4 rfl (lv_at hl 1 rfl) ?_
  refine fw_iald hx hb hK hP (mm_12 (by decide)) (mk_12 0) 0 rfl (j := 1) (by decide) (fw_inc (by decide)) md_Mo_beat_5 ?_
  refine lv_if_ne (tgt := 10) hx hb md_Mo_beat_6 (by decide) (fun c_1 => ?_) (fun c_1 => ?_)
  · refine lv_aload_n hx hb md_Mo_beat_10 rfl (lv_at hl 0 rfl) ?_
    refine fw_getr hx hb hts i_Mo hown hK hP (mm_0 (by decide)) (mk_0 0) rfl 17 (by decide) (hts _ L_Mo_59) (fun _ h9 => h9) rfl md_Mo_beat_11 ?_
    refine lv_iload_n hx hb md_Mo_beat_14 rfl (lv_at hl 1 rfl) ?_
    refine lv_dup2_11 hx hb md_Mo_beat_15 rfl rfl ?_
    refine fw_iald hx hb hK hP (mm_18 (by decide)) (mk_18 0) 0 rfl (j := 1) (by decide) (fw_inc (by decide)) md_Mo_beat_16 ?_
    refine lv_iconst (v := (1 : Int32)) hx hb md_Mo_beat_17 (by decide) ?_
    refine lv_iadd hx hb md_Mo_beat_18 ?_
    refine fw_iast hx hb hK hD hP hS (mm_18 (by decide)) (mk_18 0) 0 rfl (j := 1) (by decide) (fw_inc (by decide)) md_Mo_beat_19 (fun v2 H locs ev2 hP hS => ?_)
    have hI : mI b v2 := by rw [ev2]; exact mI_up hI trivial trivial
    refine lv_aload_n hx hb md_Mo_beat_20 rfl (lv_at hl 0 rfl) ?_
    refine fw_getr hx hb hts i_Mo hown hK hP (mm_0 (by decide)) (mk_0 0) rfl 11 (by decide) (hts _ L_Mo_41) (fun _ h9 => h9) rfl md_Mo_beat_21 ?_
    refine lv_iload_n hx hb md_Mo_beat_24 rfl (lv_at hl 1 rfl) ?_
    refine fw_iald hx hb hK hP (mm_12 (by decide)) (mk_12 0) 0 rfl (j := 1) (by decide) (fw_inc (by decide)) md_Mo_beat_25 ?_
    refine lv_bipush (v := (6 : Int32)) hx hb md_Mo_beat_26 (by decide) ?_
    refine lv_icmp_ne (tgt := 193) hx hb md_Mo_beat_28 (by decide) (fun c_3 => ?_) (fun c_3 => ?_)
    · refine lv_aload_n hx hb md_Mo_beat_193 rfl (lv_at hl 0 rfl) ?_
      refine fw_getr hx hb hts i_Mo hown hK hP (mm_0 (by decide)) (mk_0 0) rfl 11 (by decide) (hts _ L_Mo_41) (fun _ h9 => h9) rfl md_Mo_beat_194 ?_
      refine lv_iload_n hx hb md_Mo_beat_197 rfl (lv_at hl 1 rfl) ?_
      refine fw_iald hx hb hK hP (mm_12 (by decide)) (mk_12 0) 0 rfl (j := 1) (by decide) (fw_inc (by decide)) md_Mo_beat_198 ?_
      refine lv_iconst (v := (5 : Int32)) hx hb md_Mo_beat_199 (by decide) ?_
      refine lv_icmp_ne (tgt := 222) hx hb md_Mo_beat_200 (by decide) (fun c_4 => ?_) (fun c_4 => ?_)
      · refine lv_aload_n hx hb md_Mo_beat_222 rfl (lv_at hl 0 rfl) ?_
        refine fw_getr hx hb hts i_Mo hown hK hP (mm_0 (by decide)) (mk_0 0) rfl 17 (by decide) (hts _ L_Mo_59) (fun _ h9 => h9) rfl md_Mo_beat_223 ?_
        refine lv_iload_n hx hb md_Mo_beat_226 rfl (lv_at hl 1 rfl) ?_
        refine fw_iald hx hb hK hP (mm_18 (by decide)) (mk_18 0) 0 rfl (j := 1) (by decide) (fw_inc (by decide)) md_Mo_beat_227 ?_
        refine lv_iconst (v := (4 : Int32)) hx hb md_Mo_beat_228 (by decide) ?_
        refine lv_icmp_ne (tgt := 260) hx hb md_Mo_beat_229 (by decide) (fun c_5 => ?_) (fun c_5 => ?_)
        · exact fw_vret hx hb hr hlocks hS hP hI md_Mo_beat_260 (by subst ev2; simp only [mf_Mo_beat_1, if_neg c_1, if_neg c_3, if_neg c_4, if_neg c_5])
        · refine lv_aload_n hx hb md_Mo_beat_232 rfl (lv_at hl 0 rfl) ?_
          refine fw_getr hx hb hts i_Mo hown hK hP (mm_0 (by decide)) (mk_0 0) rfl 18 (by decide) (hts _ L_Mo_62) (fun _ h9 => h9) rfl md_Mo_beat_233 ?_
          refine lv_iload_n hx hb md_Mo_beat_236 rfl (lv_at hl 1 rfl) ?_
          refine lv_dup2_11 hx hb md_Mo_beat_237 rfl rfl ?_
          refine fw_iald hx hb hK hP (mm_19 (by decide)) (mk_19 0) 0 rfl (j := 1) (by decide) (fw_inc (by decide)) md_Mo_beat_238 ?_
          refine lv_dup_x2 hx hb md_Mo_beat_239 rfl rfl rfl ?_
          refine lv_iconst (v := (1 : Int32)) hx hb md_Mo_beat_240 (by decide) ?_
          refine lv_iadd hx hb md_Mo_beat_241 ?_
          refine fw_iast hx hb hK hD hP hS (mm_19 (by decide)) (mk_19 0) 0 rfl (j := 1) (by decide) (fw_inc (by decide)) md_Mo_beat_242 (fun v6 H locs ev6 hP hS => ?_)
          have hI : mI b v6 := by rw [ev6]; exact mI_up hI trivial trivial
          refine lv_iconst (v := (2 : Int32)) hx hb md_Mo_beat_243 (by decide) ?_
          refine lv_icmp_ne (tgt := 255) hx hb md_Mo_beat_244 (by decide) (fun c_7 => ?_) (fun c_7 => ?_)
          · refine lv_aload_n hx hb md_Mo_beat_255 rfl (lv_at hl 0 rfl) ?_
            refine lv_iload_n hx hb md_Mo_beat_256 rfl (lv_at hl 1 rfl) ?_
            refine fw_cv (va_runV (As := [.int (1 : Int32)]) (rest := []) ⟨hx, hb, hml, hown, hts⟩ (mc_Mo_ask_1 l hD v6 hI ) (mw_Mo_ask hts L_Mo_213 ⟨Nat.le_of_ble_eq_true rfl, Nat.le_of_ble_eq_true rfl⟩) (fw_preV hN hK hP (mm_0 (by decide)) (mk_0 0) rfl) rfl rfl hl.1 rfl (lv_room (Nat.le_of_ble_eq_true rfl)) md_Mo_beat_257 ⟨Nat.le_of_ble_eq_true rfl, Nat.le_of_ble_eq_true rfl⟩) hS (fun v8 H locs ev8 hI hP hS => ?_)
            exact fw_vret hx hb hr hlocks hS hP hI md_Mo_beat_260 (by subst ev2 ev6 ev8; simp only [mf_Mo_beat_1, if_neg c_1, if_neg c_3, if_neg c_4, if_pos c_5, if_neg c_7])
          · refine lv_aload_n hx hb md_Mo_beat_247 rfl (lv_at hl 0 rfl) ?_
            refine lv_iload_n hx hb md_Mo_beat_248 rfl (lv_at hl 1 rfl) ?_
            refine fw_cv (va_runV (As := [.int (1 : Int32)]) (rest := []) ⟨hx, hb, hml, hown, hts⟩ (mc_Mo_breakOff_1 l hD v6 hI ) (mw_Mo_breakOff hts L_Mo_216 ⟨Nat.le_of_ble_eq_true rfl, Nat.le_of_ble_eq_true rfl⟩) (fw_preV hN hK hP (mm_0 (by decide)) (mk_0 0) rfl) rfl rfl hl.1 rfl (lv_room (Nat.le_of_ble_eq_true rfl)) md_Mo_beat_249 ⟨Nat.le_of_ble_eq_true rfl, Nat.le_of_ble_eq_true rfl⟩) hS (fun v9 H locs ev9 hI hP hS => ?_)
            refine lv_goto (tgt := 260) hx hb md_Mo_beat_252 (by decide) ?_
            exact fw_vret hx hb hr hlocks hS hP hI md_Mo_beat_260 (by subst ev2 ev6 ev9; simp only [mf_Mo_beat_1, if_neg c_1, if_neg c_3, if_neg c_4, if_pos c_5, if_pos c_7])
      · refine lv_aload_n hx hb md_Mo_beat_203 rfl (lv_at hl 0 rfl) ?_
        refine fw_getr hx hb hts i_Mo hown hK hP (mm_0 (by decide)) (mk_0 0) rfl 17 (by decide) (hts _ L_Mo_59) (fun _ h9 => h9) rfl md_Mo_beat_204 ?_
        refine lv_iload_n hx hb md_Mo_beat_207 rfl (lv_at hl 1 rfl) ?_
        refine fw_iald hx hb hK hP (mm_18 (by decide)) (mk_18 0) 0 rfl (j := 1) (by decide) (fw_inc (by decide)) md_Mo_beat_208 ?_
        refine lv_bipush (v := (12 : Int32)) hx hb md_Mo_beat_209 (by decide) ?_
        refine lv_icmp_ne (tgt := 260) hx hb md_Mo_beat_211 (by decide) (fun c_10 => ?_) (fun c_10 => ?_)
        · exact fw_vret hx hb hr hlocks hS hP hI md_Mo_beat_260 (by subst ev2; simp only [mf_Mo_beat_1, if_neg c_1, if_neg c_3, if_pos c_4, if_neg c_10])
        · refine lv_aload_n hx hb md_Mo_beat_214 rfl (lv_at hl 0 rfl) ?_
          refine lv_iload_n hx hb md_Mo_beat_215 rfl (lv_at hl 1 rfl) ?_
          refine fw_cv (va_runV (As := [.int (1 : Int32)]) (rest := []) ⟨hx, hb, hml, hown, hts⟩ (mc_Mo_breakOff_1 l hD v2 hI ) (mw_Mo_breakOff hts L_Mo_216 ⟨Nat.le_of_ble_eq_true rfl, Nat.le_of_ble_eq_true rfl⟩) (fw_preV hN hK hP (mm_0 (by decide)) (mk_0 0) rfl) rfl rfl hl.1 rfl (lv_room (Nat.le_of_ble_eq_true rfl)) md_Mo_beat_216 ⟨Nat.le_of_ble_eq_true rfl, Nat.le_of_ble_eq_true rfl⟩) hS (fun v11 H locs ev11 hI hP hS => ?_)
          refine lv_goto (tgt := 260) hx hb md_Mo_beat_219 (by decide) ?_
          exact fw_vret hx hb hr hlocks hS hP hI md_Mo_beat_260 (by subst ev2 ev11; simp only [mf_Mo_beat_1, if_neg c_1, if_neg c_3, if_pos c_4, if_pos c_10])
    · refine lv_aload_n hx hb md_Mo_beat_31 rfl (lv_at hl 0 rfl) ?_
      refine fw_getr hx hb hts i_Mo hown hK hP (mm_0 (by decide)) (mk_0 0) rfl 17 (by decide) (hts _ L_Mo_59) (fun _ h9 => h9) rfl md_Mo_beat_32 ?_
      refine lv_iload_n hx hb md_Mo_beat_35 rfl (lv_at hl 1 rfl) ?_
      refine fw_iald hx hb hK hP (mm_18 (by decide)) (mk_18 0) 0 rfl (j := 1) (by decide) (fw_inc (by decide)) md_Mo_beat_36 ?_
      refine lv_iconst (v := (4 : Int32)) hx hb md_Mo_beat_37 (by decide) ?_
      refine lv_icmp_ne (tgt := 57) hx hb md_Mo_beat_38 (by decide) (fun c_12 => ?_) (fun c_12 => ?_)
      · refine lv_iconst (v := (0 : Int32)) hx hb md_Mo_beat_57 (by decide) ?_
        refine lv_istore_n (lv' := [(2, .int (0 : Int32)), (0, .ref (ad 0 0)), (1, .int (1 : Int32))]) hx hb md_Mo_beat_58 rfl hl (by decide) rfl (fun ls hl => ?_)
        exact J1 v2  _ _ _ (by subst ev2; simp only [mf_Mo_beat_1, if_neg c_1, if_pos c_3, if_neg c_12])   hI hP hS (lv_sub hl [1, 2, 0] rfl)
      · refine lv_aload_n hx hb md_Mo_beat_41 rfl (lv_at hl 0 rfl) ?_
        refine lv_dup hx hb md_Mo_beat_42 rfl ?_
        refine fw_geti hx hb hts i_Mo hown hK hP (mm_0 (by decide)) (mk_0 0) rfl 56 (by decide) (hts _ L_Mo_235) (fun _ h9 => h9) rfl md_Mo_beat_43 ?_
        refine lv_iconst (v := (1 : Int32)) hx hb md_Mo_beat_46 (by decide) ?_
        refine lv_iadd hx hb md_Mo_beat_47 ?_
        refine fw_puti hx hb hts i_Mo t_Mo t_Mo_ok n_Mo hown hK hD hP hS (mm_0 (by decide)) (mk_0 0) rfl 56 (by decide) (hts _ L_Mo_235) (fun _ h9 => h9) rfl fw_pdI rfl rfl rfl md_Mo_beat_48 (fun v76 H locs ev76 hP hS => ?_)
        have hI : mI b v76 := by rw [ev76]; exact mI_up hI trivial trivial
        refine lv_aload_n hx hb md_Mo_beat_51 rfl (lv_at hl 0 rfl) ?_
        refine lv_iload_n hx hb md_Mo_beat_52 rfl (lv_at hl 1 rfl) ?_
        refine fw_cv (va_runV (As := [.int (1 : Int32)]) (rest := []) ⟨hx, hb, hml, hown, hts⟩ (mc_Mo_breakOff_1 l hD v76 hI ) (mw_Mo_breakOff hts L_Mo_216 ⟨Nat.le_of_ble_eq_true rfl, Nat.le_of_ble_eq_true rfl⟩) (fw_preV hN hK hP (mm_0 (by decide)) (mk_0 0) rfl) rfl rfl hl.1 rfl (lv_room (Nat.le_of_ble_eq_true rfl)) md_Mo_beat_53 ⟨Nat.le_of_ble_eq_true rfl, Nat.le_of_ble_eq_true rfl⟩) hS (fun v77 H locs ev77 hI hP hS => ?_)
        exact fw_vret hx hb hr hlocks hS hP hI md_Mo_beat_56 (by subst ev2 ev76 ev77; simp only [mf_Mo_beat_1, if_neg c_1, if_pos c_3, if_pos c_12])
  · exact fw_vret hx hb hr hlocks hS hP hI md_Mo_beat_9 (by simp only [mf_Mo_beat_1, if_pos c_1])
def mf_Mo_insAt (v0 : fw_V) (a1 : Int32) : Int32 :=
  if (0 : Int32) ≤ (v0 42 0 a1.toNatClampNeg) then
    (v0 1 0 (v0 42 0 a1.toNatClampNeg).toNatClampNeg)
  else
    (0 : Int32)

set_option maxHeartbeats 4000000 in
set_option maxRecDepth 100000 in
theorem mc_Mo_insAt (l : Launch) {D : va_G} {cA : Nat → ClassId} {ad : Nat → Nat → Nat} (hD : fw_D mCL ad) {b : Nat} (v0 : fw_V) (hI : mI b v0) (a1 : Int32) (hq0 : vp_in a1 6) : Met l my_Mo_insAt (Cond.code my_Mo_insAt mb_Mo_insAt 2 (some .int) :: vTB) mrm_Mo_insAt (fw_Pc vNL D vcls (vtys cA) mCL cA mkd ad v0 [.ref (ad 0 0), .int a1]) (fw_Qo D vcls mCL cA mkd ad v0 (mf_Mo_insAt v0 a1)) 0 0 (fw_A mCL ad) := by
  refine Met.ofW (cc := mb_Mo_insAt) (maxL := 2) (ret := (some .int)) (by decide) rfl ?_
  intro p e s m args below meth c s₁ B hml hv
  obtain ⟨rfl, hP, hK, hN⟩ := hv
  have hx := B.exec
  have hb := B.bytes
  have hr := B.returns
  have hts : ∀ w ∈ vTB, w.before ([.ref (ad 0 0), .int a1] : List Value).toArray s = true := fun w h => atoms_spec (ws := (Cond.code my_Mo_insAt mb_Mo_insAt 2 (some .int) :: vTB)) B.pre w (List.mem_cons_of_mem _ h)
  have hown : s.vm.findClass R_Mo = some m.cls := findClass_of_methodNamed B.named
  have hlocks := B.notSynchronized
  have hS : va_S (fw_A mCL ad) s.heap s.heap [] := va_S.rf
  skip
  have hl := lv_entry ([.ref (ad 0 0), .int a1]) (n := 2) (Nat.le_of_ble_eq_true rfl)
  rw [lg_entry_eq]
  generalize (lg_sl ([.ref (ad 0 0), .int a1]) ++ List.replicate (2 - (lg_sl ([.ref (ad 0 0), .int a1])).length) Slot.unset).toArray = ls at hl ⊢
  have hl : lv_has ls 2 [(0, .ref (ad 0 0)), (1, .int a1)] := hl
  refine lv_aload_n hx hb md_Mo_insAt_0 rfl (lv_at hl 0 rfl) ?_
  refine fw_getr hx hb hts i_Mo hown hK hP (mm_0 (by decide)) (mk_0 0) rfl 41 (by decide) (hts _ L_Mo_131) (fun _ h9 => h9) rfl md_Mo_insAt_1 ?_
  refine lv_iload_n hx hb md_Mo_insAt_4 rfl (lv_at hl 1 rfl) ?_
  refine fw_iald hx hb hK hP (mm_42 (by decide)) (mk_42 0) 0 rfl (j := a1.toNatClampNeg) rfl hq0 md_Mo_insAt_5 ?_
  have h_1 : vp_in ((v0 42 0 a1.toNatClampNeg) + 1) 9 := hI.1 42 0 (a1.toNatClampNeg)
  refine lv_if_ge (tgt := 13) hx hb md_Mo_insAt_6 (by decide) (fun c_2 => ?_) (fun c_2 => ?_)
  · have h_3 : vp_in (v0 42 0 a1.toNatClampNeg) 8 := fw_m8' h_1 c_2
    refine lv_aload_n hx hb md_Mo_insAt_13 rfl (lv_at hl 0 rfl) ?_
    refine fw_getr hx hb hts i_Mo hown hK hP (mm_0 (by decide)) (mk_0 0) rfl 0 (by decide) (hts _ L_Mo_7) (fun _ h9 => h9) rfl md_Mo_insAt_14 ?_
    refine lv_aload_n hx hb md_Mo_insAt_17 rfl (lv_at hl 0 rfl) ?_
    refine fw_getr hx hb hts i_Mo hown hK hP (mm_0 (by decide)) (mk_0 0) rfl 41 (by decide) (hts _ L_Mo_131) (fun _ h9 => h9) rfl md_Mo_insAt_18 ?_
    refine lv_iload_n hx hb md_Mo_insAt_21 rfl (lv_at hl 1 rfl) ?_
    refine fw_iald hx hb hK hP (mm_42 (by decide)) (mk_42 0) 0 rfl (j := a1.toNatClampNeg) rfl hq0 md_Mo_insAt_22 ?_
    refine fw_iald hx hb hK hP (mm_1 (by decide)) (mk_1 0) 0 rfl (j := (v0 42 0 a1.toNatClampNeg).toNatClampNeg) rfl h_3 md_Mo_insAt_23 ?_
    exact fw_oret hx hb hr hlocks hS hP md_Mo_insAt_24 (by simp only [mf_Mo_insAt, if_pos c_2])
  · refine lv_iconst (v := (0 : Int32)) hx hb md_Mo_insAt_9 (by decide) ?_
    refine lv_goto (tgt := 24) hx hb md_Mo_insAt_10 (by decide) ?_
    exact fw_oret hx hb hr hlocks hS hP md_Mo_insAt_24 (by simp only [mf_Mo_insAt, if_neg c_2])
def mf_Mo_alarm_0_j2 (v : fw_V)   : fw_V :=
  let v8 := fw_up v 38 0 (0) (0 : Int32)
  let v10 := fw_up v8 9 0 (0) (v8 47 0 0)
  let v11 := fw_up v10 9 0 (1) (v10 48 0 0)
  let v12 := mf_Mo_reply_0 v11 (14 : Int32) (v11 36 0 0)
  v12
def mf_Mo_alarm_0_j1 (v0 : fw_V)   : fw_V :=
  let v6 := fw_up v0 39 0 (0) ((v0 39 0 0) + (1 : Int32))
  let v7 := fw_up v6 36 0 (0) (v6 39 0 0)
  mf_Mo_alarm_0_j2 v7
def mf_Mo_alarm_0_j3 (v0 : fw_V)   : fw_V :=
  let v13 := fw_up v0 39 0 (0) (1 : Int32)
  let v14 := fw_up v13 36 0 (0) (v13 39 0 0)
  mf_Mo_alarm_0_j2 v14
def mf_Mo_alarm_0 (v0 : fw_V) : fw_V :=
  if (v0 37 0 0) = (0 : Int32) then
    v0
  else
    if (v0 36 0 0) ≤ (0 : Int32) then
      if (v0 39 0 0) = (255 : Int32) then
        mf_Mo_alarm_0_j3 v0
      else
        mf_Mo_alarm_0_j1 v0
    else
      let v15 := fw_up v0 38 0 (0) ((v0 38 0 0) + (1 : Int32))
      if (3 : Int32) ≤ (v15 38 0 0) then
        mf_Mo_alarm_0_j2 v15
      else
        v15

theorem mca_Mo_alarm_0_j2 {v : fw_V} {i k : Nat} : mf_Mo_alarm_0_j2 v 10 i k = v 10 i k := by
  unfold mf_Mo_alarm_0_j2
  try dsimp only
  all_goals ((repeat' split) <;> simp [fw_up, fw_row, mca_Mo_reply_0])
theorem mca_Mo_alarm_0_j1 {v0 : fw_V} {i k : Nat} : mf_Mo_alarm_0_j1 v0 10 i k = v0 10 i k := by
  unfold mf_Mo_alarm_0_j1
  try dsimp only
  all_goals ((repeat' split) <;> simp [fw_up, fw_row, mca_Mo_alarm_0_j2])
theorem mca_Mo_alarm_0_j3 {v0 : fw_V} {i k : Nat} : mf_Mo_alarm_0_j3 v0 10 i k = v0 10 i k := by
  unfold mf_Mo_alarm_0_j3
  try dsimp only
  all_goals ((repeat' split) <;> simp [fw_up, fw_row, mca_Mo_alarm_0_j2])
theorem mca_Mo_alarm_0 {v0 : fw_V} {i k : Nat} : mf_Mo_alarm_0 v0 10 i k = v0 10 i k := by
  unfold mf_Mo_alarm_0
  try dsimp only
  all_goals ((repeat' split) <;> simp [fw_up, fw_row, mca_Mo_alarm_0_j3, mca_Mo_alarm_0_j1, mca_Mo_alarm_0_j2])
set_option maxHeartbeats 4000000 in
set_option maxRecDepth 100000 in
theorem mc_Mo_alarm_0 (l : Launch) {D : va_G} {cA : Nat → ClassId} {ad : Nat → Nat → Nat} (hD : fw_D mCL ad) {b : Nat} (v0 : fw_V) (hI : mI b v0)   : Met l my_Mo_alarm (Cond.code my_Mo_alarm mb_Mo_alarm 2 none :: vTB) mrm_Mo_alarm (fw_Pc vNL D vcls (vtys cA) mCL cA mkd ad v0 [.ref (ad 0 0), .int (0 : Int32)]) (fw_Qv D vcls mCL cA mkd ad (mI b) (mf_Mo_alarm_0 v0)) 0 0 (fw_A mCL ad) := by
  refine Met.ofW (cc := mb_Mo_alarm) (maxL := 2) (ret := none) (by decide) rfl ?_
  intro p e s m args below meth c s₁ B hml hv
  obtain ⟨rfl, hP, hK, hN⟩ := hv
  have hx := B.exec
  have hb := B.bytes
  have hr := B.returns
  have hts : ∀ w ∈ vTB, w.before ([.ref (ad 0 0), .int (0 : Int32)] : List Value).toArray s = true := fun w h => atoms_spec (ws := (Cond.code my_Mo_alarm mb_Mo_alarm 2 none :: vTB)) B.pre w (List.mem_cons_of_mem _ h)
  have hown : s.vm.findClass R_Mo = some m.cls := findClass_of_methodNamed B.named
  have hlocks := B.notSynchronized
  have hS : va_S (fw_A mCL ad) s.heap s.heap [] := va_S.rf
  have J2 : ∀ (v : fw_V)  (H : Heap) (locs : List Loc) (ls : Array Slot), mf_Mo_alarm_0 v0 = mf_Mo_alarm_0_j2 v → 0 < (v 37 0 0).toInt → mI b v → va_P D vcls (fw_w mCL cA mkd ad v) H → va_S (fw_A mCL ad) s.heap H locs → lv_has ls 2 [(0, .ref (ad 0 0)), (1, .int (0 : Int32))] → W p l e (headSpec (Cond.code my_Mo_alarm mb_Mo_alarm 2 none :: vTB) mrm_Mo_alarm).room s m ([.ref (ad 0 0), .int (0 : Int32)] : List Value).toArray below meth c H locs 0 0 (MQ below (fw_Qv D vcls mCL cA mkd ad (mI b) (mf_Mo_alarm_0 v0)) ([.ref (ad 0 0), .int (0 : Int32)] : List Value).toArray s 0 0 (fw_A mCL ad)) (F0 m 82 ls []) := by
    intro v  H locs ls hj hkf0 hI hP hS hl
    refine lv_aload_n hx hb md_Mo_alarm_82 rfl (lv_at hl 0 rfl) ?_
    refine fw_getr hx hb hts i_Mo hown hK hP (mm_0 (by decide)) (mk_0 0) rfl 37 (by decide) (hts _ L_Mo_119) (fun _ h9 => h9) rfl md_Mo_alarm_83 ?_
    refine lv_iload_n hx hb md_Mo_alarm_86 rfl (lv_at hl 1 rfl) ?_
    refine lv_iconst (v := (0 : Int32)) hx hb md_Mo_alarm_87 (by decide) ?_
    refine fw_iast hx hb hK hD hP hS (mm_38 (by decide)) (mk_38 0) 0 rfl (j := 0) (by decide) (fw_inc (by decide)) md_Mo_alarm_88 (fun v8 H locs ev8 hP hS => ?_)
    have hI : mI b v8 := by rw [ev8]; exact mI_up hI trivial trivial
    refine lv_aload_n hx hb md_Mo_alarm_89 rfl (lv_at hl 0 rfl) ?_
    refine fw_getr hx hb hts i_Mo hown hK hP (mm_0 (by decide)) (mk_0 0) rfl 8 (by decide) (hts _ L_Mo_35) (fun _ h9 => h9) rfl md_Mo_alarm_90 ?_
    refine lv_iconst (v := (0 : Int32)) hx hb md_Mo_alarm_93 (by decide) ?_
    refine lv_aload_n hx hb md_Mo_alarm_94 rfl (lv_at hl 0 rfl) ?_
    refine fw_getr hx hb hts i_Mo hown hK hP (mm_0 (by decide)) (mk_0 0) rfl 46 (by decide) (hts _ L_Mo_146) (fun _ h9 => h9) rfl md_Mo_alarm_95 ?_
    refine lv_iconst (v := (4 : Int32)) hx hb md_Mo_alarm_98 (by decide) ?_
    refine lv_iload_n hx hb md_Mo_alarm_99 rfl (lv_at hl 1 rfl) ?_
    refine lv_imul hx hb md_Mo_alarm_100 ?_
    refine fw_top (y := (0 : Int32)) (by decide) ?_
    refine fw_iald hx hb hK hP (mm_47 (by decide)) (mk_47 0) 0 rfl (j := 0) (by decide) (fw_inc (by decide)) md_Mo_alarm_101 ?_
    have h_9 : vp_in (v8 47 0 0) 3 := hI.1 47 0 (0)
    refine fw_iast hx hb hK hD hP hS (mm_9 (by decide)) (mk_9 0) 0 rfl (j := 0) (by decide) (fw_inc (by decide)) md_Mo_alarm_102 (fun v10 H locs ev10 hP hS => ?_)
    have hI : mI b v10 := by rw [ev10]; exact mI_up hI trivial trivial
    refine lv_aload_n hx hb md_Mo_alarm_103 rfl (lv_at hl 0 rfl) ?_
    refine fw_getr hx hb hts i_Mo hown hK hP (mm_0 (by decide)) (mk_0 0) rfl 8 (by decide) (hts _ L_Mo_35) (fun _ h9 => h9) rfl md_Mo_alarm_104 ?_
    refine lv_iconst (v := (1 : Int32)) hx hb md_Mo_alarm_107 (by decide) ?_
    refine lv_aload_n hx hb md_Mo_alarm_108 rfl (lv_at hl 0 rfl) ?_
    refine fw_getr hx hb hts i_Mo hown hK hP (mm_0 (by decide)) (mk_0 0) rfl 47 (by decide) (hts _ L_Mo_149) (fun _ h9 => h9) rfl md_Mo_alarm_109 ?_
    refine lv_iconst (v := (4 : Int32)) hx hb md_Mo_alarm_112 (by decide) ?_
    refine lv_iload_n hx hb md_Mo_alarm_113 rfl (lv_at hl 1 rfl) ?_
    refine lv_imul hx hb md_Mo_alarm_114 ?_
    refine fw_top (y := (0 : Int32)) (by decide) ?_
    refine fw_iald hx hb hK hP (mm_48 (by decide)) (mk_48 0) 0 rfl (j := 0) (by decide) (fw_inc (by decide)) md_Mo_alarm_115 ?_
    refine fw_iast hx hb hK hD hP hS (mm_9 (by decide)) (mk_9 0) 0 rfl (j := 1) (by decide) (fw_inc (by decide)) md_Mo_alarm_116 (fun v11 H locs ev11 hP hS => ?_)
    have hI : mI b v11 := by rw [ev11]; exact mI_up hI trivial trivial
    refine lv_aload_n hx hb md_Mo_alarm_117 rfl (lv_at hl 0 rfl) ?_
    refine lv_iload_n hx hb md_Mo_alarm_118 rfl (lv_at hl 1 rfl) ?_
    refine lv_bipush (v := (14 : Int32)) hx hb md_Mo_alarm_119 (by decide) ?_
    refine lv_aload_n hx hb md_Mo_alarm_121 rfl (lv_at hl 0 rfl) ?_
    refine fw_getr hx hb hts i_Mo hown hK hP (mm_0 (by decide)) (mk_0 0) rfl 35 (by decide) (hts _ L_Mo_113) (fun _ h9 => h9) rfl md_Mo_alarm_122 ?_
    refine lv_iload_n hx hb md_Mo_alarm_125 rfl (lv_at hl 1 rfl) ?_
    refine fw_iald hx hb hK hP (mm_36 (by decide)) (mk_36 0) 0 rfl (j := 0) (by decide) (fw_inc (by decide)) md_Mo_alarm_126 ?_
    refine fw_cv (va_runV (As := [.int (0 : Int32), .int (14 : Int32), .int (v11 36 0 0)]) (rest := []) ⟨hx, hb, hml, hown, hts⟩ (mc_Mo_reply_0 l hD v11 hI (14 : Int32) (v11 36 0 0) (fun _ => by rw [ev11, fw_up_k (k := 1) (k' := 0) (by decide), ev10, fw_up_s]; exact h_9) (by decide) (by decide)) (mw_Mo_reply hts L_Mo_238 ⟨Nat.le_of_ble_eq_true rfl, Nat.le_of_ble_eq_true rfl⟩) (fw_preV hN hK hP (mm_0 (by decide)) (mk_0 0) rfl) rfl rfl hl.1 rfl (lv_room (Nat.le_of_ble_eq_true rfl)) md_Mo_alarm_127 ⟨Nat.le_of_ble_eq_true rfl, Nat.le_of_ble_eq_true rfl⟩) hS (fun v12 H locs ev12 hI hP hS => ?_)
    exact fw_vret hx hb hr hlocks hS hP hI md_Mo_alarm_130 (by rw [hj]; subst ev8 ev10 ev11 ev12; simp only [mf_Mo_alarm_0_j2])
  have J1 : ∀  (H : Heap) (locs : List Loc) (ls : Array Slot), mf_Mo_alarm_0 v0 = mf_Mo_alarm_0_j1 v0 → 0 < (v0 37 0 0).toInt → mI b v0 → va_P D vcls (fw_w mCL cA mkd ad v0) H → va_S (fw_A mCL ad) s.heap H locs → lv_has ls 2 [(0, .ref (ad 0 0)), (1, .int (0 : Int32))] → W p l e (headSpec (Cond.code my_Mo_alarm mb_Mo_alarm 2 none :: vTB) mrm_Mo_alarm).room s m ([.ref (ad 0 0), .int (0 : Int32)] : List Value).toArray below meth c H locs 0 0 (MQ below (fw_Qv D vcls mCL cA mkd ad (mI b) (mf_Mo_alarm_0 v0)) ([.ref (ad 0 0), .int (0 : Int32)] : List Value).toArray s 0 0 (fw_A mCL ad)) (F0 m 69 ls [.int ((v0 39 0 0) + (1 : Int32)), .int (0 : Int32), .ref (ad 39 0)]) := by
    intro  H locs ls hj hkf0 hI hP hS hl
    refine fw_iast hx hb hK hD hP hS (mm_39 (by decide)) (mk_39 0) 0 rfl (j := 0) (by decide) (fw_inc (by decide)) md_Mo_alarm_69 (fun v6 H locs ev6 hP hS => ?_)
    have hI : mI b v6 := by rw [ev6]; exact mI_up hI trivial trivial
    refine lv_aload_n hx hb md_Mo_alarm_70 rfl (lv_at hl 0 rfl) ?_
    refine fw_getr hx hb hts i_Mo hown hK hP (mm_0 (by decide)) (mk_0 0) rfl 35 (by decide) (hts _ L_Mo_113) (fun _ h9 => h9) rfl md_Mo_alarm_71 ?_
    refine lv_iload_n hx hb md_Mo_alarm_74 rfl (lv_at hl 1 rfl) ?_
    refine lv_aload_n hx hb md_Mo_alarm_75 rfl (lv_at hl 0 rfl) ?_
    refine fw_getr hx hb hts i_Mo hown hK hP (mm_0 (by decide)) (mk_0 0) rfl 38 (by decide) (hts _ L_Mo_122) (fun _ h9 => h9) rfl md_Mo_alarm_76 ?_
    refine lv_iload_n hx hb md_Mo_alarm_79 rfl (lv_at hl 1 rfl) ?_
    refine fw_iald hx hb hK hP (mm_39 (by decide)) (mk_39 0) 0 rfl (j := 0) (by decide) (fw_inc (by decide)) md_Mo_alarm_80 ?_
    refine fw_iast hx hb hK hD hP hS (mm_36 (by decide)) (mk_36 0) 0 rfl (j := 0) (by decide) (fw_inc (by decide)) md_Mo_alarm_81 (fun v7 H locs ev7 hP hS => ?_)
    have hI : mI b v7 := by rw [ev7]; exact mI_up hI trivial (Or.inr (by rw [ev6, fw_up_c (c := 39) (c' := 37) (by decide)]; exact hkf0))
    exact J2 v7  _ _ _ (by rw [hj]; subst ev6 ev7; simp only [mf_Mo_alarm_0_j1])  (by rw [ev7, fw_up_c (c := 36) (c' := 37) (by decide), ev6, fw_up_c (c := 39) (c' := 37) (by decide)]; exact hkf0) hI hP hS (lv_sub hl [0, 1] rfl)
  have J3 : ∀  (H : Heap) (locs : List Loc) (ls : Array Slot), mf_Mo_alarm_0 v0 = mf_Mo_alarm_0_j3 v0 → 0 < (v0 37 0 0).toInt → mI b v0 → va_P D vcls (fw_w mCL cA mkd ad v0) H → va_S (fw_A mCL ad) s.heap H locs → lv_has ls 2 [(0, .ref (ad 0 0)), (1, .int (0 : Int32))] → W p l e (headSpec (Cond.code my_Mo_alarm mb_Mo_alarm 2 none :: vTB) mrm_Mo_alarm).room s m ([.ref (ad 0 0), .int (0 : Int32)] : List Value).toArray below meth c H locs 0 0 (MQ below (fw_Qv D vcls mCL cA mkd ad (mI b) (mf_Mo_alarm_0 v0)) ([.ref (ad 0 0), .int (0 : Int32)] : List Value).toArray s 0 0 (fw_A mCL ad)) (F0 m 69 ls [.int (1 : Int32), .int (0 : Int32), .ref (ad 39 0)]) := by
    intro  H locs ls hj hkf0 hI hP hS hl
    clear J1
    refine fw_iast hx hb hK hD hP hS (mm_39 (by decide)) (mk_39 0) 0 rfl (j := 0) (by decide) (fw_inc (by decide)) md_Mo_alarm_69 (fun v13 H locs ev13 hP hS => ?_)
    have hI : mI b v13 := by rw [ev13]; exact mI_up hI trivial trivial
    refine lv_aload_n hx hb md_Mo_alarm_70 rfl (lv_at hl 0 rfl) ?_
    refine fw_getr hx hb hts i_Mo hown hK hP (mm_0 (by decide)) (mk_0 0) rfl 35 (by decide) (hts _ L_Mo_113) (fun _ h9 => h9) rfl md_Mo_alarm_71 ?_
    refine lv_iload_n hx hb md_Mo_alarm_74 rfl (lv_at hl 1 rfl) ?_
    refine lv_aload_n hx hb md_Mo_alarm_75 rfl (lv_at hl 0 rfl) ?_
    refine fw_getr hx hb hts i_Mo hown hK hP (mm_0 (by decide)) (mk_0 0) rfl 38 (by decide) (hts _ L_Mo_122) (fun _ h9 => h9) rfl md_Mo_alarm_76 ?_
    refine lv_iload_n hx hb md_Mo_alarm_79 rfl (lv_at hl 1 rfl) ?_
    refine fw_iald hx hb hK hP (mm_39 (by decide)) (mk_39 0) 0 rfl (j := 0) (by decide) (fw_inc (by decide)) md_Mo_alarm_80 ?_
    refine fw_iast hx hb hK hD hP hS (mm_36 (by decide)) (mk_36 0) 0 rfl (j := 0) (by decide) (fw_inc (by decide)) md_Mo_alarm_81 (fun v14 H locs ev14 hP hS => ?_)
    have hI : mI b v14 := by rw [ev14]; exact mI_up hI trivial (Or.inr (by rw [ev13, fw_up_c (c := 39) (c' := 37) (by decide)]; exact hkf0))
    exact J2 v14  _ _ _ (by rw [hj]; subst ev13 ev14; simp only [mf_Mo_alarm_0_j3])  (by rw [ev14, fw_up_c (c := 36) (c' := 37) (by decide), ev13, fw_up_c (c := 39) (c' := 37) (by decide)]; exact hkf0) hI hP hS (lv_sub hl [0, 1] rfl)
  skip
  have hl := lv_entry ([.ref (ad 0 0), .int (0 : Int32)]) (n := 2) (Nat.le_of_ble_eq_true rfl)
  rw [lg_entry_eq]
  generalize (lg_sl ([.ref (ad 0 0), .int (0 : Int32)]) ++ List.replicate (2 - (lg_sl ([.ref (ad 0 0), .int (0 : Int32)])).length) Slot.unset).toArray = ls at hl ⊢
  have hl : lv_has ls 2 [(0, .ref (ad 0 0)), (1, .int (0 : Int32))] := hl
  refine lv_aload_n hx hb md_Mo_alarm_0 rfl (lv_at hl 0 rfl) ?_
  refine fw_getr hx hb hts i_Mo hown hK hP (mm_0 (by decide)) (mk_0 0) rfl 36 (by decide) (hts _ L_Mo_116) (fun _ h9 => h9) rfl md_Mo_alarm_1 ?_
  refine lv_iload_n hx hb md_Mo_alarm_4 rfl (lv_at hl 1 rfl) ?_
  refine fw_iald hx hb hK hP (mm_37 (by decide)) (mk_37 0) 0 rfl (j := 0) (by decide) (fw_inc (by decide)) md_Mo_alarm_5 ?_
  have h_1 : vp_in (v0 37 0 0) 5 := hI.1 37 0 (0)
  refine lv_if_ne (tgt := 10) hx hb md_Mo_alarm_6 (by decide) (fun c_2 => ?_) (fun c_2 => ?_)
  · have h_3 : 0 < (v0 37 0 0).toInt := fw_pos h_1 c_2
    refine lv_aload_n hx hb md_Mo_alarm_10 rfl (lv_at hl 0 rfl) ?_
    refine fw_getr hx hb hts i_Mo hown hK hP (mm_0 (by decide)) (mk_0 0) rfl 35 (by decide) (hts _ L_Mo_113) (fun _ h9 => h9) rfl md_Mo_alarm_11 ?_
    refine lv_iload_n hx hb md_Mo_alarm_14 rfl (lv_at hl 1 rfl) ?_
    refine fw_iald hx hb hK hP (mm_36 (by decide)) (mk_36 0) 0 rfl (j := 0) (by decide) (fw_inc (by decide)) md_Mo_alarm_15 ?_
    refine lv_if_le (tgt := 40) hx hb md_Mo_alarm_16 (by decide) (fun c_4 => ?_) (fun c_4 => ?_)
    · refine lv_aload_n hx hb md_Mo_alarm_40 rfl (lv_at hl 0 rfl) ?_
      refine fw_getr hx hb hts i_Mo hown hK hP (mm_0 (by decide)) (mk_0 0) rfl 38 (by decide) (hts _ L_Mo_122) (fun _ h9 => h9) rfl md_Mo_alarm_41 ?_
      refine lv_iload_n hx hb md_Mo_alarm_44 rfl (lv_at hl 1 rfl) ?_
      refine lv_aload_n hx hb md_Mo_alarm_45 rfl (lv_at hl 0 rfl) ?_
      refine fw_getr hx hb hts i_Mo hown hK hP (mm_0 (by decide)) (mk_0 0) rfl 38 (by decide) (hts _ L_Mo_122) (fun _ h9 => h9) rfl md_Mo_alarm_46 ?_
      refine lv_iload_n hx hb md_Mo_alarm_49 rfl (lv_at hl 1 rfl) ?_
      refine fw_iald hx hb hK hP (mm_39 (by decide)) (mk_39 0) 0 rfl (j := 0) (by decide) (fw_inc (by decide)) md_Mo_alarm_50 ?_
      refine lv_sipush (v := (255 : Int32)) hx hb md_Mo_alarm_51 (by decide) ?_
      refine lv_icmp_ne (tgt := 61) hx hb md_Mo_alarm_54 (by decide) (fun c_5 => ?_) (fun c_5 => ?_)
      · refine lv_aload_n hx hb md_Mo_alarm_61 rfl (lv_at hl 0 rfl) ?_
        refine fw_getr hx hb hts i_Mo hown hK hP (mm_0 (by decide)) (mk_0 0) rfl 38 (by decide) (hts _ L_Mo_122) (fun _ h9 => h9) rfl md_Mo_alarm_62 ?_
        refine lv_iload_n hx hb md_Mo_alarm_65 rfl (lv_at hl 1 rfl) ?_
        refine fw_iald hx hb hK hP (mm_39 (by decide)) (mk_39 0) 0 rfl (j := 0) (by decide) (fw_inc (by decide)) md_Mo_alarm_66 ?_
        refine lv_iconst (v := (1 : Int32)) hx hb md_Mo_alarm_67 (by decide) ?_
        refine lv_iadd hx hb md_Mo_alarm_68 ?_
        exact J1  _ _ _ (by simp only [mf_Mo_alarm_0, if_neg c_2, if_pos c_4, if_neg c_5])  h_3 hI hP hS (lv_sub hl [0, 1] rfl)
      · refine lv_iconst (v := (1 : Int32)) hx hb md_Mo_alarm_57 (by decide) ?_
        refine lv_goto (tgt := 69) hx hb md_Mo_alarm_58 (by decide) ?_
        exact J3  _ _ _ (by simp only [mf_Mo_alarm_0, if_neg c_2, if_pos c_4, if_pos c_5])  h_3 hI hP hS (lv_sub hl [0, 1] rfl)
    · refine lv_aload_n hx hb md_Mo_alarm_19 rfl (lv_at hl 0 rfl) ?_
      refine fw_getr hx hb hts i_Mo hown hK hP (mm_0 (by decide)) (mk_0 0) rfl 37 (by decide) (hts _ L_Mo_119) (fun _ h9 => h9) rfl md_Mo_alarm_20 ?_
      refine lv_iload_n hx hb md_Mo_alarm_23 rfl (lv_at hl 1 rfl) ?_
      refine lv_dup2_11 hx hb md_Mo_alarm_24 rfl rfl ?_
      refine fw_iald hx hb hK hP (mm_38 (by decide)) (mk_38 0) 0 rfl (j := 0) (by decide) (fw_inc (by decide)) md_Mo_alarm_25 ?_
      refine lv_iconst (v := (1 : Int32)) hx hb md_Mo_alarm_26 (by decide) ?_
      refine lv_iadd hx hb md_Mo_alarm_27 ?_
      refine fw_iast hx hb hK hD hP hS (mm_38 (by decide)) (mk_38 0) 0 rfl (j := 0) (by decide) (fw_inc (by decide)) md_Mo_alarm_28 (fun v15 H locs ev15 hP hS => ?_)
      have hI : mI b v15 := by rw [ev15]; exact mI_up hI trivial trivial
      refine lv_aload_n hx hb md_Mo_alarm_29 rfl (lv_at hl 0 rfl) ?_
      refine fw_getr hx hb hts i_Mo hown hK hP (mm_0 (by decide)) (mk_0 0) rfl 37 (by decide) (hts _ L_Mo_119) (fun _ h9 => h9) rfl md_Mo_alarm_30 ?_
      refine lv_iload_n hx hb md_Mo_alarm_33 rfl (lv_at hl 1 rfl) ?_
      refine fw_iald hx hb hK hP (mm_38 (by decide)) (mk_38 0) 0 rfl (j := 0) (by decide) (fw_inc (by decide)) md_Mo_alarm_34 ?_
      refine lv_iconst (v := (3 : Int32)) hx hb md_Mo_alarm_35 (by decide) ?_
      refine lv_icmp_ge (tgt := 82) hx hb md_Mo_alarm_36 (by decide) (fun c_16 => ?_) (fun c_16 => ?_)
      · exact J2 v15  _ _ _ (by subst ev15; simp only [mf_Mo_alarm_0, if_neg c_2, if_neg c_4, if_pos c_16])  (by rw [ev15, fw_up_c (c := 38) (c' := 37) (by decide)]; exact h_3) hI hP hS (lv_sub hl [0, 1] rfl)
      · exact fw_vret hx hb hr hlocks hS hP hI md_Mo_alarm_39 (by subst ev15; simp only [mf_Mo_alarm_0, if_neg c_2, if_neg c_4, if_neg c_16])
  · exact fw_vret hx hb hr hlocks hS hP hI md_Mo_alarm_9 (by simp only [mf_Mo_alarm_0, if_pos c_2])
