def f_M_readAll_J67_98 (N : Nat) (rec : (Int32 × (Nat → Int32)) → Option (Nat → Int32)) (s1_j98 : Int32) (v4_67 : Int32) (mo_prediction_67 : Nat → Int32) (s2_j98 : Int32) : Option (Nat → Int32) :=
  if s1_j98 < 0 ∨ 4 ≤ s1_j98.toNatClampNeg then none else
  rec (v4_67 + (1 : Int32), upd mo_prediction_67 s1_j98.toNatClampNeg s2_j98)
def f_M_readAll_J67_87 (N : Nat) (rec : (Int32 × (Nat → Int32)) → Option (Nat → Int32)) (s1_j87 : Int32) (v4_67 : Int32) (mo_prediction_67 : Nat → Int32) : Option (Nat → Int32) :=
  f_M_readAll_J67_98 N rec s1_j87 v4_67 mo_prediction_67 (0 : Int32)
def f_M_readAll_L67b (v2_4 : Int32) (v3_67 : Int32) (N : Nat) (rec : (Int32 × (Nat → Int32)) → Option (Nat → Int32)) (v4_67 : Int32) (mo_prediction_67 : Nat → Int32) : Option (Nat → Int32) :=
  if (4 : Int32) ≤ v4_67 then
    some mo_prediction_67
  else
    if v2_4 = 0 then
      f_M_readAll_J67_87 N rec v4_67 v4_67 mo_prediction_67
    else
      if v3_67 = 0 then
        if v4_67 < 0 ∨ 4 ≤ v4_67.toNatClampNeg then none else
        f_M_readAll_J67_98 N rec v4_67 v4_67 mo_prediction_67 (mo_prediction_67 v4_67.toNatClampNeg)
      else
        f_M_readAll_J67_87 N rec v4_67 v4_67 mo_prediction_67
def f_M_readAll_L67 (v2_4 : Int32) (v3_67 : Int32) (N : Nat) (k : Nat) : (Int32 × (Nat → Int32)) → Option (Nat → Int32) := it (fun rec a => f_M_readAll_L67b v2_4 v3_67 N rec a.1 a.2) k
def f_M_readAll_L120b (v4_108 : Int32) (mo_mask : Int32) (mo_h : Nat → Int32) (mo_v : Nat → Int32) (v2_4 : Int32) (mo_unitsAcross : Int32) (mo_across : Nat → Int32) (mo_ownAcross : Nat → Int32) (mo_first : Int32) (mo_last : Int32) (mo_before : Int32) (mo_bits : Int32) (mo_size : Int32) (mo_base : Nat → Int32) (mo_lengths : Nat → Int32) (mo_codes : Nat → Int32) (mo_directOf : Nat → Int32) (mo_otherOf : Nat → Int32) (mo_data : Nat → Int32) (N : Nat) (rec : (Int32 × Int32 × Int32 × Int32 × Int32 × Int32 × (Nat → Int32) × (Nat → Int32)) → Option (Int32 × Int32 × Int32 × Int32 × Int32 × (Nat → Int32) × (Nat → Int32))) (v5_120 : Int32) (mo_run_120 : Int32) (mo_at_120 : Int32) (mo_taken_120 : Int32) (mo_left_120 : Int32) (mo_fault_120 : Int32) (mo_coefficients_120 : Nat → Int32) (mo_prediction_120 : Nat → Int32) : Option (Int32 × Int32 × Int32 × Int32 × Int32 × (Nat → Int32) × (Nat → Int32)) :=
  (f_M_blocksIn N v4_108 mo_mask mo_h mo_v).bind fun z3 =>
  if z3 ≤ v5_120 then
    some (mo_run_120, mo_at_120, mo_taken_120, mo_left_120, mo_fault_120, mo_coefficients_120, mo_prediction_120)
  else
    if mo_fault_120 = 0 then
      (f_M_blockOf N v4_108 v2_4 v5_120 mo_unitsAcross mo_mask mo_h mo_v mo_across mo_ownAcross).bind fun z4 =>
      (f_M_readBlock N v4_108 z4 mo_first mo_last mo_before mo_bits mo_size mo_run_120 mo_at_120 mo_taken_120 mo_left_120 mo_fault_120 mo_base mo_coefficients_120 mo_lengths mo_codes mo_directOf mo_otherOf mo_data mo_prediction_120).bind fun z5 =>
      rec (v5_120 + (1 : Int32), z5.1, z5.2.1, z5.2.2.1, z5.2.2.2.1, z5.2.2.2.2.1, z5.2.2.2.2.2.1, z5.2.2.2.2.2.2)
    else
      some (mo_run_120, mo_at_120, mo_taken_120, mo_left_120, mo_fault_120, mo_coefficients_120, mo_prediction_120)
def f_M_readAll_L120 (v4_108 : Int32) (mo_mask : Int32) (mo_h : Nat → Int32) (mo_v : Nat → Int32) (v2_4 : Int32) (mo_unitsAcross : Int32) (mo_across : Nat → Int32) (mo_ownAcross : Nat → Int32) (mo_first : Int32) (mo_last : Int32) (mo_before : Int32) (mo_bits : Int32) (mo_size : Int32) (mo_base : Nat → Int32) (mo_lengths : Nat → Int32) (mo_codes : Nat → Int32) (mo_directOf : Nat → Int32) (mo_otherOf : Nat → Int32) (mo_data : Nat → Int32) (N : Nat) (k : Nat) : (Int32 × Int32 × Int32 × Int32 × Int32 × Int32 × (Nat → Int32) × (Nat → Int32)) → Option (Int32 × Int32 × Int32 × Int32 × Int32 × (Nat → Int32) × (Nat → Int32)) := it (fun rec a => f_M_readAll_L120b v4_108 mo_mask mo_h mo_v v2_4 mo_unitsAcross mo_across mo_ownAcross mo_first mo_last mo_before mo_bits mo_size mo_base mo_lengths mo_codes mo_directOf mo_otherOf mo_data N rec a.1 a.2.1 a.2.2.1 a.2.2.2.1 a.2.2.2.2.1 a.2.2.2.2.2.1 a.2.2.2.2.2.2.1 a.2.2.2.2.2.2.2) k
def f_M_readAll_J108_159 (N : Nat) (rec : (Int32 × Int32 × Int32 × Int32 × Int32 × Int32 × (Nat → Int32) × (Nat → Int32)) → Option (Int32 × Int32 × Int32 × Int32 × Int32 × (Nat → Int32) × (Nat → Int32))) (v4_108 : Int32) (mo_run_j159 : Int32) (mo_at_j159 : Int32) (mo_taken_j159 : Int32) (mo_left_j159 : Int32) (mo_fault_j159 : Int32) (mo_coefficients_j159 : Nat → Int32) (mo_prediction_j159 : Nat → Int32) : Option (Int32 × Int32 × Int32 × Int32 × Int32 × (Nat → Int32) × (Nat → Int32)) :=
  rec (v4_108 + (1 : Int32), mo_run_j159, mo_at_j159, mo_taken_j159, mo_left_j159, mo_fault_j159, mo_coefficients_j159, mo_prediction_j159)
def f_M_readAll_L108b (mo_many : Int32) (mo_mask : Int32) (mo_h : Nat → Int32) (mo_v : Nat → Int32) (v2_4 : Int32) (mo_unitsAcross : Int32) (mo_across : Nat → Int32) (mo_ownAcross : Nat → Int32) (mo_first : Int32) (mo_last : Int32) (mo_before : Int32) (mo_bits : Int32) (mo_size : Int32) (mo_base : Nat → Int32) (mo_lengths : Nat → Int32) (mo_codes : Nat → Int32) (mo_directOf : Nat → Int32) (mo_otherOf : Nat → Int32) (mo_data : Nat → Int32) (N : Nat) (rec : (Int32 × Int32 × Int32 × Int32 × Int32 × Int32 × (Nat → Int32) × (Nat → Int32)) → Option (Int32 × Int32 × Int32 × Int32 × Int32 × (Nat → Int32) × (Nat → Int32))) (v4_108 : Int32) (mo_run_108 : Int32) (mo_at_108 : Int32) (mo_taken_108 : Int32) (mo_left_108 : Int32) (mo_fault_108 : Int32) (mo_coefficients_108 : Nat → Int32) (mo_prediction_108 : Nat → Int32) : Option (Int32 × Int32 × Int32 × Int32 × Int32 × (Nat → Int32) × (Nat → Int32)) :=
  if mo_many ≤ v4_108 then
    some (mo_run_108, mo_at_108, mo_taken_108, mo_left_108, mo_fault_108, mo_coefficients_108, mo_prediction_108)
  else
    (f_M_readAll_L120 v4_108 mo_mask mo_h mo_v v2_4 mo_unitsAcross mo_across mo_ownAcross mo_first mo_last mo_before mo_bits mo_size mo_base mo_lengths mo_codes mo_directOf mo_otherOf mo_data N N ((0 : Int32), mo_run_108, mo_at_108, mo_taken_108, mo_left_108, mo_fault_108, mo_coefficients_108, mo_prediction_108)).bind fun z6 =>
      f_M_readAll_J108_159 N rec v4_108 z6.1 z6.2.1 z6.2.2.1 z6.2.2.2.1 z6.2.2.2.2.1 z6.2.2.2.2.2.1 z6.2.2.2.2.2.2
def f_M_readAll_L108 (mo_many : Int32) (mo_mask : Int32) (mo_h : Nat → Int32) (mo_v : Nat → Int32) (v2_4 : Int32) (mo_unitsAcross : Int32) (mo_across : Nat → Int32) (mo_ownAcross : Nat → Int32) (mo_first : Int32) (mo_last : Int32) (mo_before : Int32) (mo_bits : Int32) (mo_size : Int32) (mo_base : Nat → Int32) (mo_lengths : Nat → Int32) (mo_codes : Nat → Int32) (mo_directOf : Nat → Int32) (mo_otherOf : Nat → Int32) (mo_data : Nat → Int32) (N : Nat) (k : Nat) : (Int32 × Int32 × Int32 × Int32 × Int32 × Int32 × (Nat → Int32) × (Nat → Int32)) → Option (Int32 × Int32 × Int32 × Int32 × Int32 × (Nat → Int32) × (Nat → Int32)) := it (fun rec a => f_M_readAll_L108b mo_many mo_mask mo_h mo_v v2_4 mo_unitsAcross mo_across mo_ownAcross mo_first mo_last mo_before mo_bits mo_size mo_base mo_lengths mo_codes mo_directOf mo_otherOf mo_data N rec a.1 a.2.1 a.2.2.1 a.2.2.2.1 a.2.2.2.2.1 a.2.2.2.2.2.1 a.2.2.2.2.2.2.1 a.2.2.2.2.2.2.2) k
def f_M_readAll_J4_64 (N : Nat) (rec : (Int32 × Int32 × Int32 × Int32 × Int32 × Int32 × Int32 × (Nat → Int32) × (Nat → Int32)) → Option (Int32 × Int32 × Int32 × Int32 × Int32 × (Nat → Int32) × (Nat → Int32))) (v2_4 : Int32) (v3_j64 : Int32) (mo_prediction_4 : Nat → Int32) (mo_many : Int32) (mo_mask : Int32) (mo_h : Nat → Int32) (mo_v : Nat → Int32) (mo_unitsAcross : Int32) (mo_across : Nat → Int32) (mo_ownAcross : Nat → Int32) (mo_first : Int32) (mo_last : Int32) (mo_before : Int32) (mo_bits : Int32) (mo_size : Int32) (mo_base : Nat → Int32) (mo_lengths : Nat → Int32) (mo_codes : Nat → Int32) (mo_directOf : Nat → Int32) (mo_otherOf : Nat → Int32) (mo_data : Nat → Int32) (mo_run_4 : Int32) (mo_at_j64 : Int32) (mo_taken_4 : Int32) (mo_left_j64 : Int32) (mo_fault_j64 : Int32) (mo_coefficients_4 : Nat → Int32) (v1_j64 : Int32) : Option (Int32 × Int32 × Int32 × Int32 × Int32 × (Nat → Int32) × (Nat → Int32)) :=
  (f_M_readAll_L67 v2_4 v3_j64 N N ((0 : Int32), mo_prediction_4)).bind fun z2 =>
    (f_M_readAll_L108 mo_many mo_mask mo_h mo_v v2_4 mo_unitsAcross mo_across mo_ownAcross mo_first mo_last mo_before mo_bits mo_size mo_base mo_lengths mo_codes mo_directOf mo_otherOf mo_data N N ((0 : Int32), mo_run_4, mo_at_j64, mo_taken_4, mo_left_j64, mo_fault_j64, mo_coefficients_4, z2)).bind fun z7 =>
    rec (v1_j64, v2_4 + (1 : Int32), z7.1, z7.2.1, z7.2.2.1, z7.2.2.2.1, z7.2.2.2.2.1, z7.2.2.2.2.2.1, z7.2.2.2.2.2.2)
def f_M_readAll_J4_44 (N : Nat) (rec : (Int32 × Int32 × Int32 × Int32 × Int32 × Int32 × Int32 × (Nat → Int32) × (Nat → Int32)) → Option (Int32 × Int32 × Int32 × Int32 × Int32 × (Nat → Int32) × (Nat → Int32))) (s0_j44 : Int32) (v2_4 : Int32) (mo_prediction_4 : Nat → Int32) (mo_many : Int32) (mo_mask : Int32) (mo_h : Nat → Int32) (mo_v : Nat → Int32) (mo_unitsAcross : Int32) (mo_across : Nat → Int32) (mo_ownAcross : Nat → Int32) (mo_first : Int32) (mo_last : Int32) (mo_before : Int32) (mo_bits : Int32) (mo_size : Int32) (mo_base : Nat → Int32) (mo_lengths : Nat → Int32) (mo_codes : Nat → Int32) (mo_directOf : Nat → Int32) (mo_otherOf : Nat → Int32) (mo_data : Nat → Int32) (mo_run_4 : Int32) (mo_at_4 : Int32) (mo_taken_4 : Int32) (mo_left_4 : Int32) (mo_fault_4 : Int32) (mo_coefficients_4 : Nat → Int32) (v1_4 : Int32) : Option (Int32 × Int32 × Int32 × Int32 × Int32 × (Nat → Int32) × (Nat → Int32)) :=
  if s0_j44 = 0 then
    f_M_readAll_J4_64 N rec v2_4 s0_j44 mo_prediction_4 mo_many mo_mask mo_h mo_v mo_unitsAcross mo_across mo_ownAcross mo_first mo_last mo_before mo_bits mo_size mo_base mo_lengths mo_codes mo_directOf mo_otherOf mo_data mo_run_4 mo_at_4 mo_taken_4 mo_left_4 mo_fault_4 mo_coefficients_4 v1_4
  else
    (f_M_finish N ((208 : Int32) + (v1_4 - v1_4 / (8 : Int32) * (8 : Int32))) mo_size mo_run_4 mo_at_4 mo_taken_4 mo_left_4 mo_fault_4 mo_data).bind fun z8 =>
    f_M_readAll_J4_64 N rec v2_4 s0_j44 mo_prediction_4 mo_many mo_mask mo_h mo_v mo_unitsAcross mo_across mo_ownAcross mo_first mo_last mo_before mo_bits mo_size mo_base mo_lengths mo_codes mo_directOf mo_otherOf mo_data mo_run_4 z8.1 mo_taken_4 z8.2.1 z8.2.2 mo_coefficients_4 (v1_4 + (1 : Int32))
def f_M_readAll_J4_43 (N : Nat) (rec : (Int32 × Int32 × Int32 × Int32 × Int32 × Int32 × Int32 × (Nat → Int32) × (Nat → Int32)) → Option (Int32 × Int32 × Int32 × Int32 × Int32 × (Nat → Int32) × (Nat → Int32))) (v2_4 : Int32) (mo_prediction_4 : Nat → Int32) (mo_many : Int32) (mo_mask : Int32) (mo_h : Nat → Int32) (mo_v : Nat → Int32) (mo_unitsAcross : Int32) (mo_across : Nat → Int32) (mo_ownAcross : Nat → Int32) (mo_first : Int32) (mo_last : Int32) (mo_before : Int32) (mo_bits : Int32) (mo_size : Int32) (mo_base : Nat → Int32) (mo_lengths : Nat → Int32) (mo_codes : Nat → Int32) (mo_directOf : Nat → Int32) (mo_otherOf : Nat → Int32) (mo_data : Nat → Int32) (mo_run_4 : Int32) (mo_at_4 : Int32) (mo_taken_4 : Int32) (mo_left_4 : Int32) (mo_fault_4 : Int32) (mo_coefficients_4 : Nat → Int32) (v1_4 : Int32) : Option (Int32 × Int32 × Int32 × Int32 × Int32 × (Nat → Int32) × (Nat → Int32)) :=
  f_M_readAll_J4_44 N rec (0 : Int32) v2_4 mo_prediction_4 mo_many mo_mask mo_h mo_v mo_unitsAcross mo_across mo_ownAcross mo_first mo_last mo_before mo_bits mo_size mo_base mo_lengths mo_codes mo_directOf mo_otherOf mo_data mo_run_4 mo_at_4 mo_taken_4 mo_left_4 mo_fault_4 mo_coefficients_4 v1_4
def f_M_readAll_L4b (mo_unitsAcross : Int32) (mo_unitsDown : Int32) (mo_mask : Int32) (mo_ownAcross : Nat → Int32) (mo_ownDown : Nat → Int32) (mo_interval : Int32) (mo_many : Int32) (mo_h : Nat → Int32) (mo_v : Nat → Int32) (mo_across : Nat → Int32) (mo_first : Int32) (mo_last : Int32) (mo_before : Int32) (mo_bits : Int32) (mo_size : Int32) (mo_base : Nat → Int32) (mo_lengths : Nat → Int32) (mo_codes : Nat → Int32) (mo_directOf : Nat → Int32) (mo_otherOf : Nat → Int32) (mo_data : Nat → Int32) (N : Nat) (rec : (Int32 × Int32 × Int32 × Int32 × Int32 × Int32 × Int32 × (Nat → Int32) × (Nat → Int32)) → Option (Int32 × Int32 × Int32 × Int32 × Int32 × (Nat → Int32) × (Nat → Int32))) (v1_4 : Int32) (v2_4 : Int32) (mo_run_4 : Int32) (mo_at_4 : Int32) (mo_taken_4 : Int32) (mo_left_4 : Int32) (mo_fault_4 : Int32) (mo_coefficients_4 : Nat → Int32) (mo_prediction_4 : Nat → Int32) : Option (Int32 × Int32 × Int32 × Int32 × Int32 × (Nat → Int32) × (Nat → Int32)) :=
  (f_M_units N mo_unitsAcross mo_unitsDown mo_mask mo_ownAcross mo_ownDown).bind fun z1 =>
  if z1 ≤ v2_4 then
    some (mo_run_4, mo_at_4, mo_taken_4, mo_left_4, mo_fault_4, mo_coefficients_4, mo_prediction_4)
  else
    if mo_fault_4 = 0 then
      if mo_interval ≤ 0 then
        f_M_readAll_J4_43 N rec v2_4 mo_prediction_4 mo_many mo_mask mo_h mo_v mo_unitsAcross mo_across mo_ownAcross mo_first mo_last mo_before mo_bits mo_size mo_base mo_lengths mo_codes mo_directOf mo_otherOf mo_data mo_run_4 mo_at_4 mo_taken_4 mo_left_4 mo_fault_4 mo_coefficients_4 v1_4
      else
        if v2_4 ≤ 0 then
          f_M_readAll_J4_43 N rec v2_4 mo_prediction_4 mo_many mo_mask mo_h mo_v mo_unitsAcross mo_across mo_ownAcross mo_first mo_last mo_before mo_bits mo_size mo_base mo_lengths mo_codes mo_directOf mo_otherOf mo_data mo_run_4 mo_at_4 mo_taken_4 mo_left_4 mo_fault_4 mo_coefficients_4 v1_4
        else
          if mo_interval = 0 then none else if (v2_4 - v2_4 / mo_interval * mo_interval) = 0 then
            f_M_readAll_J4_44 N rec (1 : Int32) v2_4 mo_prediction_4 mo_many mo_mask mo_h mo_v mo_unitsAcross mo_across mo_ownAcross mo_first mo_last mo_before mo_bits mo_size mo_base mo_lengths mo_codes mo_directOf mo_otherOf mo_data mo_run_4 mo_at_4 mo_taken_4 mo_left_4 mo_fault_4 mo_coefficients_4 v1_4
          else
            f_M_readAll_J4_43 N rec v2_4 mo_prediction_4 mo_many mo_mask mo_h mo_v mo_unitsAcross mo_across mo_ownAcross mo_first mo_last mo_before mo_bits mo_size mo_base mo_lengths mo_codes mo_directOf mo_otherOf mo_data mo_run_4 mo_at_4 mo_taken_4 mo_left_4 mo_fault_4 mo_coefficients_4 v1_4
    else
      some (mo_run_4, mo_at_4, mo_taken_4, mo_left_4, mo_fault_4, mo_coefficients_4, mo_prediction_4)
def f_M_readAll_L4 (mo_unitsAcross : Int32) (mo_unitsDown : Int32) (mo_mask : Int32) (mo_ownAcross : Nat → Int32) (mo_ownDown : Nat → Int32) (mo_interval : Int32) (mo_many : Int32) (mo_h : Nat → Int32) (mo_v : Nat → Int32) (mo_across : Nat → Int32) (mo_first : Int32) (mo_last : Int32) (mo_before : Int32) (mo_bits : Int32) (mo_size : Int32) (mo_base : Nat → Int32) (mo_lengths : Nat → Int32) (mo_codes : Nat → Int32) (mo_directOf : Nat → Int32) (mo_otherOf : Nat → Int32) (mo_data : Nat → Int32) (N : Nat) (k : Nat) : (Int32 × Int32 × Int32 × Int32 × Int32 × Int32 × Int32 × (Nat → Int32) × (Nat → Int32)) → Option (Int32 × Int32 × Int32 × Int32 × Int32 × (Nat → Int32) × (Nat → Int32)) := it (fun rec a => f_M_readAll_L4b mo_unitsAcross mo_unitsDown mo_mask mo_ownAcross mo_ownDown mo_interval mo_many mo_h mo_v mo_across mo_first mo_last mo_before mo_bits mo_size mo_base mo_lengths mo_codes mo_directOf mo_otherOf mo_data N rec a.1 a.2.1 a.2.2.1 a.2.2.2.1 a.2.2.2.2.1 a.2.2.2.2.2.1 a.2.2.2.2.2.2.1 a.2.2.2.2.2.2.2.1 a.2.2.2.2.2.2.2.2) k
def f_M_readAll_J171 (N : Nat) (mo_fault_j171 : Int32) (mo_size : Int32) (mo_run_j171 : Int32) (mo_at_j171 : Int32) (mo_taken_j171 : Int32) (mo_left_j171 : Int32) (mo_data : Nat → Int32) (mo_coefficients_j171 : Nat → Int32) (mo_prediction_j171 : Nat → Int32) : Option (Int32 × Int32 × Int32 × Int32 × Int32 × (Nat → Int32) × (Nat → Int32)) :=
  if mo_fault_j171 = 0 then
    (f_M_finish N (0 : Int32) mo_size mo_run_j171 mo_at_j171 mo_taken_j171 mo_left_j171 mo_fault_j171 mo_data).bind fun z10 =>
    some (mo_run_j171, z10.1, mo_taken_j171, z10.2.1, z10.2.2, mo_coefficients_j171, mo_prediction_j171)
  else
    some (mo_run_j171, mo_at_j171, mo_taken_j171, mo_left_j171, mo_fault_j171, mo_coefficients_j171, mo_prediction_j171)
def f_M_readAll (N : Nat) (mo_many : Int32) (mo_unitsAcross : Int32) (mo_unitsDown : Int32) (mo_mask : Int32) (mo_first : Int32) (mo_last : Int32) (mo_before : Int32) (mo_bits : Int32) (mo_interval : Int32) (mo_size : Int32) (mo_run : Int32) (mo_at : Int32) (mo_taken : Int32) (mo_left : Int32) (mo_fault : Int32) (mo_h : Nat → Int32) (mo_v : Nat → Int32) (mo_across : Nat → Int32) (mo_ownAcross : Nat → Int32) (mo_ownDown : Nat → Int32) (mo_base : Nat → Int32) (mo_coefficients : Nat → Int32) (mo_lengths : Nat → Int32) (mo_codes : Nat → Int32) (mo_directOf : Nat → Int32) (mo_otherOf : Nat → Int32) (mo_data : Nat → Int32) (mo_prediction : Nat → Int32) : Option (Int32 × Int32 × Int32 × Int32 × Int32 × (Nat → Int32) × (Nat → Int32)) :=
  (f_M_readAll_L4 mo_unitsAcross mo_unitsDown mo_mask mo_ownAcross mo_ownDown mo_interval mo_many mo_h mo_v mo_across mo_first mo_last mo_before mo_bits mo_size mo_base mo_lengths mo_codes mo_directOf mo_otherOf mo_data N N ((0 : Int32), (0 : Int32), mo_run, mo_at, mo_taken, mo_left, mo_fault, mo_coefficients, mo_prediction)).bind fun z9 =>
    f_M_readAll_J171 N z9.2.2.2.2.1 mo_size z9.1 z9.2.1 z9.2.2.1 z9.2.2.2.1 mo_data z9.2.2.2.2.2.1 z9.2.2.2.2.2.2
abbrev w_M_readAll (cI cB cS cT : ClassId) (a_mo : Nat) (a_mo_h : Nat) (a_mo_v : Nat) (a_mo_across : Nat) (a_mo_ownAcross : Nat) (a_mo_ownDown : Nat) (a_mo_base : Nat) (a_mo_coefficients : Nat) (a_mo_lengths : Nat) (a_mo_codes : Nat) (a_mo_directOf : Nat) (a_mo_otherOf : Nat) (a_mo_data : Nat) (a_mo_prediction : Nat) (a_mo_down : Nat) (a_mo_before0 : Nat) (a_mo_draftCounts : Nat) (a_mo_draft : Nat) (a_mo_words : Nat) (a_mo_out : Nat) (a_mo_times : Nat) (a_mo_runBits : Nat) (a_mo_toCome : Nat) (a_mo_timesKept : Nat) (mo_thrown : Int32) (mo_width : Int32) (mo_height : Int32) (mo_many : Int32) (mo_unitsAcross : Int32) (mo_unitsDown : Int32) (mo_drafts : Int32) (mo_mask : Int32) (mo_first : Int32) (mo_last : Int32) (mo_before : Int32) (mo_bits : Int32) (mo_interval : Int32) (mo_size : Int32) (mo_outs : Int32) (mo_part : Int32) (mo_parted : Int32) (mo_failed : Int32) (mo_counting : Int32) (mo_run : Int32) (mo_runMany : Int32) (mo_comes : Int32) (mo_at : Int32) (mo_taken : Int32) (mo_left : Int32) (mo_fault : Int32) (mo_h : Nat → Int32) (mo_v : Nat → Int32) (mo_across : Nat → Int32) (mo_ownAcross : Nat → Int32) (mo_ownDown : Nat → Int32) (mo_base : Nat → Int32) (mo_coefficients : Nat → Int32) (mo_lengths : Nat → Int32) (mo_codes : Nat → Int32) (mo_directOf : Nat → Int32) (mo_otherOf : Nat → Int32) (mo_data : Nat → Int32) (mo_prediction : Nat → Int32) : va_W := [(a_mo, .inr (11, [.int mo_thrown, .int mo_width, .int mo_height, .int mo_many, .ref a_mo_h, .ref a_mo_v, .ref a_mo_across, .ref a_mo_down, .ref a_mo_ownAcross, .ref a_mo_ownDown, .ref a_mo_base, .int mo_unitsAcross, .int mo_unitsDown, .ref a_mo_coefficients, .ref a_mo_before0, .ref a_mo_draftCounts, .ref a_mo_draft, .int mo_drafts, .ref a_mo_words, .ref a_mo_lengths, .ref a_mo_codes, .ref a_mo_directOf, .ref a_mo_otherOf, .int mo_mask, .int mo_first, .int mo_last, .int mo_before, .int mo_bits, .int mo_interval, .ref a_mo_data, .int mo_size, .ref a_mo_out, .int mo_outs, .int mo_part, .int mo_parted, .int mo_failed, .int mo_counting, .ref a_mo_times, .ref a_mo_prediction, .int mo_run, .ref a_mo_runBits, .int mo_runMany, .ref a_mo_toCome, .int mo_comes, .int mo_at, .int mo_taken, .int mo_left, .int mo_fault, .ref a_mo_timesKept])), (a_mo_h, .inl (cI, 4, .inl mo_h)), (a_mo_v, .inl (cI, 4, .inl mo_v)), (a_mo_across, .inl (cI, 4, .inl mo_across)), (a_mo_ownAcross, .inl (cI, 4, .inl mo_ownAcross)), (a_mo_ownDown, .inl (cI, 4, .inl mo_ownDown)), (a_mo_base, .inl (cI, 4, .inl mo_base)), (a_mo_coefficients, .inl (cS, 12288, .inl mo_coefficients)), (a_mo_lengths, .inl (cI, 2048, .inl mo_lengths)), (a_mo_codes, .inl (cI, 2048, .inl mo_codes)), (a_mo_directOf, .inl (cI, 4, .inl mo_directOf)), (a_mo_otherOf, .inl (cI, 4, .inl mo_otherOf)), (a_mo_data, .inl (cB, 16384, .inl mo_data)), (a_mo_prediction, .inl (cI, 4, .inl mo_prediction))]
def rm_M_readAll : Room := { frames := 6, cells := 0, slots := 0, locals := 142 }
set_option maxHeartbeats 1000000 in
set_option maxRecDepth 100000 in
theorem c_M_readAll (l : Launch) (dC : Nat → ClassId) (dI : Nat → Nat → Nat) (cI cB cS cT : ClassId) (N : Nat) (a_mo : Nat) (a_mo_h : Nat) (a_mo_v : Nat) (a_mo_across : Nat) (a_mo_ownAcross : Nat) (a_mo_ownDown : Nat) (a_mo_base : Nat) (a_mo_coefficients : Nat) (a_mo_lengths : Nat) (a_mo_codes : Nat) (a_mo_directOf : Nat) (a_mo_otherOf : Nat) (a_mo_data : Nat) (a_mo_prediction : Nat) (a_mo_down : Nat) (a_mo_before0 : Nat) (a_mo_draftCounts : Nat) (a_mo_draft : Nat) (a_mo_words : Nat) (a_mo_out : Nat) (a_mo_times : Nat) (a_mo_runBits : Nat) (a_mo_toCome : Nat) (a_mo_timesKept : Nat) (mo_thrown : Int32) (mo_width : Int32) (mo_height : Int32) (mo_many : Int32) (mo_unitsAcross : Int32) (mo_unitsDown : Int32) (mo_drafts : Int32) (mo_mask : Int32) (mo_first : Int32) (mo_last : Int32) (mo_before : Int32) (mo_bits : Int32) (mo_interval : Int32) (mo_size : Int32) (mo_outs : Int32) (mo_part : Int32) (mo_parted : Int32) (mo_failed : Int32) (mo_counting : Int32) (mo_run : Int32) (mo_runMany : Int32) (mo_comes : Int32) (mo_at : Int32) (mo_taken : Int32) (mo_left : Int32) (mo_fault : Int32) (mo_h : Nat → Int32) (mo_v : Nat → Int32) (mo_across : Nat → Int32) (mo_ownAcross : Nat → Int32) (mo_ownDown : Nat → Int32) (mo_base : Nat → Int32) (mo_coefficients : Nat → Int32) (mo_lengths : Nat → Int32) (mo_codes : Nat → Int32) (mo_directOf : Nat → Int32) (mo_otherOf : Nat → Int32) (mo_data : Nat → Int32) (mo_prediction : Nat → Int32) (sz : Nat) (z : Int32 × Int32 × Int32 × Int32 × Int32 × (Nat → Int32) × (Nat → Int32)) (hf : f_M_readAll N mo_many mo_unitsAcross mo_unitsDown mo_mask mo_first mo_last mo_before mo_bits mo_interval mo_size mo_run mo_at mo_taken mo_left mo_fault mo_h mo_v mo_across mo_ownAcross mo_ownDown mo_base mo_coefficients mo_lengths mo_codes mo_directOf mo_otherOf mo_data mo_prediction = some z) : Met l y_m1144 ws_m1144 rm_M_readAll (gPre (dC, dI) [.ref a_mo] (gT cI cB cS cT) (w_M_readAll cI cB cS cT a_mo a_mo_h a_mo_v a_mo_across a_mo_ownAcross a_mo_ownDown a_mo_base a_mo_coefficients a_mo_lengths a_mo_codes a_mo_directOf a_mo_otherOf a_mo_data a_mo_prediction a_mo_down a_mo_before0 a_mo_draftCounts a_mo_draft a_mo_words a_mo_out a_mo_times a_mo_runBits a_mo_toCome a_mo_timesKept mo_thrown mo_width mo_height mo_many mo_unitsAcross mo_unitsDown mo_drafts mo_mask mo_first mo_last mo_before mo_bits mo_interval mo_size mo_outs mo_part mo_parted mo_failed mo_counting mo_run mo_runMany mo_comes mo_at mo_taken mo_left mo_fault mo_h mo_v mo_across mo_ownAcross mo_ownDown mo_base mo_coefficients mo_lengths mo_codes mo_directOf mo_otherOf mo_data mo_prediction) sz) (gQv (dC, dI) (gT cI cB cS cT) (w_M_readAll cI cB cS cT a_mo a_mo_h a_mo_v a_mo_across a_mo_ownAcross a_mo_ownDown a_mo_base a_mo_coefficients a_mo_lengths a_mo_codes a_mo_directOf a_mo_otherOf a_mo_data a_mo_prediction a_mo_down a_mo_before0 a_mo_draftCounts a_mo_draft a_mo_words a_mo_out a_mo_times a_mo_runBits a_mo_toCome a_mo_timesKept mo_thrown mo_width mo_height mo_many mo_unitsAcross mo_unitsDown mo_drafts mo_mask mo_first mo_last mo_before mo_bits mo_interval mo_size mo_outs mo_part mo_parted mo_failed mo_counting mo_run mo_runMany mo_comes mo_at mo_taken mo_left mo_fault mo_h mo_v mo_across mo_ownAcross mo_ownDown mo_base mo_coefficients mo_lengths mo_codes mo_directOf mo_otherOf mo_data mo_prediction) (w_M_readAll cI cB cS cT a_mo a_mo_h a_mo_v a_mo_across a_mo_ownAcross a_mo_ownDown a_mo_base a_mo_coefficients a_mo_lengths a_mo_codes a_mo_directOf a_mo_otherOf a_mo_data a_mo_prediction a_mo_down a_mo_before0 a_mo_draftCounts a_mo_draft a_mo_words a_mo_out a_mo_times a_mo_runBits a_mo_toCome a_mo_timesKept mo_thrown mo_width mo_height mo_many mo_unitsAcross mo_unitsDown mo_drafts mo_mask mo_first mo_last mo_before mo_bits mo_interval mo_size mo_outs mo_part mo_parted mo_failed mo_counting z.1 mo_runMany mo_comes z.2.1 z.2.2.1 z.2.2.2.1 z.2.2.2.2.1 mo_h mo_v mo_across mo_ownAcross mo_ownDown mo_base z.2.2.2.2.2.1 mo_lengths mo_codes mo_directOf mo_otherOf mo_data z.2.2.2.2.2.2) sz) 0 0 (va_A (w_M_readAll cI cB cS cT a_mo a_mo_h a_mo_v a_mo_across a_mo_ownAcross a_mo_ownDown a_mo_base a_mo_coefficients a_mo_lengths a_mo_codes a_mo_directOf a_mo_otherOf a_mo_data a_mo_prediction a_mo_down a_mo_before0 a_mo_draftCounts a_mo_draft a_mo_words a_mo_out a_mo_times a_mo_runBits a_mo_toCome a_mo_timesKept mo_thrown mo_width mo_height mo_many mo_unitsAcross mo_unitsDown mo_drafts mo_mask mo_first mo_last mo_before mo_bits mo_interval mo_size mo_outs mo_part mo_parted mo_failed mo_counting mo_run mo_runMany mo_comes mo_at mo_taken mo_left mo_fault mo_h mo_v mo_across mo_ownAcross mo_ownDown mo_base mo_coefficients mo_lengths mo_codes mo_directOf mo_otherOf mo_data mo_prediction) sz) := by
  refine Met.ofW (cc := prog_14_method_59_code) (maxL := 6) (ret := none) (by decide) rfl ?_
  intro p e s m args below meth c s₁ B hml hv
  obtain ⟨hargs, hsz, hP, hKN, hD0⟩ := hv
  have hK := hKN.1
  have hx := B.exec
  have hb := B.bytes
  have hr := B.returns
  have hts := atoms_spec (ws := ws_m1144) B.pre
  have hown : s.vm.findClass "ScanCoderModel" = some m.cls := findClass_of_methodNamed B.named
  have hlocks := B.notSynchronized
  have k0 := hts _ (List.mem_cons_of_mem _ tw_881)
  have k1 := hts _ (List.mem_cons_of_mem _ tw_862)
  have k2 := hts _ (List.mem_cons_of_mem _ tw_872)
  have k3 := hts _ (List.mem_cons_of_mem _ tw_837)
  have n0 : ∀ w ∈ u_ws "ScanCoderModel" T_11 49, w ∈ ws_m1144 := fun w h => List.mem_cons_of_mem _ (in_11 w h)
  subst hsz
  have hD := hD0.self (sz := s.heap.size)
  obtain ⟨A, hAe⟩ : ∃ A : Nat → Prop, va_A (w_M_readAll cI cB cS cT a_mo a_mo_h a_mo_v a_mo_across a_mo_ownAcross a_mo_ownDown a_mo_base a_mo_coefficients a_mo_lengths a_mo_codes a_mo_directOf a_mo_otherOf a_mo_data a_mo_prediction a_mo_down a_mo_before0 a_mo_draftCounts a_mo_draft a_mo_words a_mo_out a_mo_times a_mo_runBits a_mo_toCome a_mo_timesKept mo_thrown mo_width mo_height mo_many mo_unitsAcross mo_unitsDown mo_drafts mo_mask mo_first mo_last mo_before mo_bits mo_interval mo_size mo_outs mo_part mo_parted mo_failed mo_counting mo_run mo_runMany mo_comes mo_at mo_taken mo_left mo_fault mo_h mo_v mo_across mo_ownAcross mo_ownDown mo_base mo_coefficients mo_lengths mo_codes mo_directOf mo_otherOf mo_data mo_prediction) s.heap.size = A := ⟨_, rfl⟩
  rw [hAe] at hD
  have hA : ∀ q : Nat, s.heap.size ≤ q → A q := fun q h => by rw [← hAe]; exact Or.inr h
  have hS : va_S A s.heap s.heap [] := va_S.rf
  have hl := lv_entry ([.ref a_mo]) (n := 6) (Nat.le_of_ble_eq_true rfl)
  have hfr : entryFrame m args 6 = F0 m 0 ((lg_sl ([.ref a_mo]) ++ List.replicate (6 - (lg_sl ([.ref a_mo])).length) Slot.unset).toArray) [] := by rw [hargs]; exact lg_entry_eq _ _ _
  rw [hfr]
  generalize (lg_sl ([.ref a_mo]) ++ List.replicate (6 - (lg_sl ([.ref a_mo])).length) Slot.unset).toArray = ls at hl ⊢
  have hl : lv_has ls 6 [(0, .ref a_mo)] := hl
  refine gen_Q (fun Q hQ => ?_)
  clear hfr
  have L67 : ∀ (v1_67 : Int32) (v3_67 : Int32) (mo_at_67 : Int32) (mo_left_67 : Int32) (mo_fault_67 : Int32) (v2_4 : Int32) (mo_run_4 : Int32) (mo_taken_4 : Int32) (mo_coefficients_4 : Nat → Int32) (z : Nat → Int32), (GW (dC, dI) A p l e (headSpec ws_m1144 rm_M_readAll).room s m args below meth c 0 0 Q 6 105 (w_M_readAll cI cB cS cT a_mo a_mo_h a_mo_v a_mo_across a_mo_ownAcross a_mo_ownDown a_mo_base a_mo_coefficients a_mo_lengths a_mo_codes a_mo_directOf a_mo_otherOf a_mo_data a_mo_prediction a_mo_down a_mo_before0 a_mo_draftCounts a_mo_draft a_mo_words a_mo_out a_mo_times a_mo_runBits a_mo_toCome a_mo_timesKept mo_thrown mo_width mo_height mo_many mo_unitsAcross mo_unitsDown mo_drafts mo_mask mo_first mo_last mo_before mo_bits mo_interval mo_size mo_outs mo_part mo_parted mo_failed mo_counting mo_run_4 mo_runMany mo_comes mo_at_67 mo_taken_4 mo_left_67 mo_fault_67 mo_h mo_v mo_across mo_ownAcross mo_ownDown mo_base mo_coefficients_4 mo_lengths mo_codes mo_directOf mo_otherOf mo_data z) [(0, .ref a_mo), (1, .int v1_67), (2, .int v2_4)] []) → ∀ (k : Nat) (v4_67 : Int32) (mo_prediction_67 : Nat → Int32), f_M_readAll_L67 v2_4 v3_67 N k (v4_67, mo_prediction_67) = some z → GW (dC, dI) A p l e (headSpec ws_m1144 rm_M_readAll).room s m args below meth c 0 0 Q 6 67 (w_M_readAll cI cB cS cT a_mo a_mo_h a_mo_v a_mo_across a_mo_ownAcross a_mo_ownDown a_mo_base a_mo_coefficients a_mo_lengths a_mo_codes a_mo_directOf a_mo_otherOf a_mo_data a_mo_prediction a_mo_down a_mo_before0 a_mo_draftCounts a_mo_draft a_mo_words a_mo_out a_mo_times a_mo_runBits a_mo_toCome a_mo_timesKept mo_thrown mo_width mo_height mo_many mo_unitsAcross mo_unitsDown mo_drafts mo_mask mo_first mo_last mo_before mo_bits mo_interval mo_size mo_outs mo_part mo_parted mo_failed mo_counting mo_run_4 mo_runMany mo_comes mo_at_67 mo_taken_4 mo_left_67 mo_fault_67 mo_h mo_v mo_across mo_ownAcross mo_ownDown mo_base mo_coefficients_4 mo_lengths mo_codes mo_directOf mo_otherOf mo_data mo_prediction_67) [(0, .ref a_mo), (1, .int v1_67), (2, .int v2_4), (3, .int v3_67), (4, .int v4_67)] [] := by
    intro v1_67 v3_67 mo_at_67 mo_left_67 mo_fault_67 v2_4 mo_run_4 mo_taken_4 mo_coefficients_4 z hE0 k
    induction k with
    | zero =>
      intro v4_67 mo_prediction_67 hf
      exact (it_zero hf).elim
    | succ k ih =>
      intro v4_67 mo_prediction_67 hf H locs ls hP hD hS hl
      have J67_98 : ∀ (s1_j98 : Int32) (s2_j98 : Int32), f_M_readAll_J67_98 N (f_M_readAll_L67 v2_4 v3_67 N k) s1_j98 v4_67 mo_prediction_67 s2_j98 = some z → GW (dC, dI) A p l e (headSpec ws_m1144 rm_M_readAll).room s m args below meth c 0 0 Q 6 98 (w_M_readAll cI cB cS cT a_mo a_mo_h a_mo_v a_mo_across a_mo_ownAcross a_mo_ownDown a_mo_base a_mo_coefficients a_mo_lengths a_mo_codes a_mo_directOf a_mo_otherOf a_mo_data a_mo_prediction a_mo_down a_mo_before0 a_mo_draftCounts a_mo_draft a_mo_words a_mo_out a_mo_times a_mo_runBits a_mo_toCome a_mo_timesKept mo_thrown mo_width mo_height mo_many mo_unitsAcross mo_unitsDown mo_drafts mo_mask mo_first mo_last mo_before mo_bits mo_interval mo_size mo_outs mo_part mo_parted mo_failed mo_counting mo_run_4 mo_runMany mo_comes mo_at_67 mo_taken_4 mo_left_67 mo_fault_67 mo_h mo_v mo_across mo_ownAcross mo_ownDown mo_base mo_coefficients_4 mo_lengths mo_codes mo_directOf mo_otherOf mo_data mo_prediction_67) [(0, .ref a_mo), (1, .int v1_67), (2, .int v2_4), (3, .int v3_67), (4, .int v4_67)] [.int s2_j98, .int s1_j98, .ref a_mo_prediction] := by
        intro s1_j98 s2_j98 hf H locs ls hP hD hS hl
        unfold f_M_readAll_J67_98 at hf
        obtain ⟨hi, hf⟩ := ob_if hf
        refine va_iast hx hb hK hP hD hS 13 0 rfl rfl hi d_m1144_98 (fun H locs hP hD hS => ?_)
        have hP : va_P (dC, dI) vwCl (w_M_readAll cI cB cS cT a_mo a_mo_h a_mo_v a_mo_across a_mo_ownAcross a_mo_ownDown a_mo_base a_mo_coefficients a_mo_lengths a_mo_codes a_mo_directOf a_mo_otherOf a_mo_data a_mo_prediction a_mo_down a_mo_before0 a_mo_draftCounts a_mo_draft a_mo_words a_mo_out a_mo_times a_mo_runBits a_mo_toCome a_mo_timesKept mo_thrown mo_width mo_height mo_many mo_unitsAcross mo_unitsDown mo_drafts mo_mask mo_first mo_last mo_before mo_bits mo_interval mo_size mo_outs mo_part mo_parted mo_failed mo_counting mo_run_4 mo_runMany mo_comes mo_at_67 mo_taken_4 mo_left_67 mo_fault_67 mo_h mo_v mo_across mo_ownAcross mo_ownDown mo_base mo_coefficients_4 mo_lengths mo_codes mo_directOf mo_otherOf mo_data (upd mo_prediction_67 s1_j98.toNatClampNeg s2_j98)) H := hP
        have hD : va_D A (w_M_readAll cI cB cS cT a_mo a_mo_h a_mo_v a_mo_across a_mo_ownAcross a_mo_ownDown a_mo_base a_mo_coefficients a_mo_lengths a_mo_codes a_mo_directOf a_mo_otherOf a_mo_data a_mo_prediction a_mo_down a_mo_before0 a_mo_draftCounts a_mo_draft a_mo_words a_mo_out a_mo_times a_mo_runBits a_mo_toCome a_mo_timesKept mo_thrown mo_width mo_height mo_many mo_unitsAcross mo_unitsDown mo_drafts mo_mask mo_first mo_last mo_before mo_bits mo_interval mo_size mo_outs mo_part mo_parted mo_failed mo_counting mo_run_4 mo_runMany mo_comes mo_at_67 mo_taken_4 mo_left_67 mo_fault_67 mo_h mo_v mo_across mo_ownAcross mo_ownDown mo_base mo_coefficients_4 mo_lengths mo_codes mo_directOf mo_otherOf mo_data (upd mo_prediction_67 s1_j98.toNatClampNeg s2_j98)) := hD
        refine lv_iinc (v := v4_67 + (1 : Int32)) (lv' := [(4, .int (v4_67 + (1 : Int32))), (0, .ref a_mo), (1, .int v1_67), (2, .int v2_4), (3, .int v3_67)]) hx hb d_m1144_99 hl (k := 4) rfl rfl (by decide) rfl (fun ls hl => ?_)
        refine lv_goto (tgt := 67) hx hb d_m1144_102 (by decide) ?_
        exact ih (v4_67 + (1 : Int32)) (upd mo_prediction_67 s1_j98.toNatClampNeg s2_j98) hf H locs ls hP hD hS (lv_sub hl [1, 2, 3, 4, 0] rfl)
      have J67_87 : ∀ (s1_j87 : Int32), f_M_readAll_J67_87 N (f_M_readAll_L67 v2_4 v3_67 N k) s1_j87 v4_67 mo_prediction_67 = some z → GW (dC, dI) A p l e (headSpec ws_m1144 rm_M_readAll).room s m args below meth c 0 0 Q 6 87 (w_M_readAll cI cB cS cT a_mo a_mo_h a_mo_v a_mo_across a_mo_ownAcross a_mo_ownDown a_mo_base a_mo_coefficients a_mo_lengths a_mo_codes a_mo_directOf a_mo_otherOf a_mo_data a_mo_prediction a_mo_down a_mo_before0 a_mo_draftCounts a_mo_draft a_mo_words a_mo_out a_mo_times a_mo_runBits a_mo_toCome a_mo_timesKept mo_thrown mo_width mo_height mo_many mo_unitsAcross mo_unitsDown mo_drafts mo_mask mo_first mo_last mo_before mo_bits mo_interval mo_size mo_outs mo_part mo_parted mo_failed mo_counting mo_run_4 mo_runMany mo_comes mo_at_67 mo_taken_4 mo_left_67 mo_fault_67 mo_h mo_v mo_across mo_ownAcross mo_ownDown mo_base mo_coefficients_4 mo_lengths mo_codes mo_directOf mo_otherOf mo_data mo_prediction_67) [(0, .ref a_mo), (1, .int v1_67), (2, .int v2_4), (3, .int v3_67), (4, .int v4_67)] [.int s1_j87, .ref a_mo_prediction] := by
        intro s1_j87 hf H locs ls hP hD hS hl
        unfold f_M_readAll_J67_87 at hf
        refine lv_iconst (v := (0 : Int32)) hx hb d_m1144_87 (by decide) ?_
        refine lv_goto (tgt := 98) hx hb d_m1144_88 (by decide) ?_
        exact J67_98 s1_j87 (0 : Int32) hf H locs ls hP hD hS hl
      have hf : f_M_readAll_L67b v2_4 v3_67 N (f_M_readAll_L67 v2_4 v3_67 N k) v4_67 mo_prediction_67 = some z := hf
      unfold f_M_readAll_L67b at hf
      refine lv_iload hx hb d_m1144_67 (lv_at hl 4 rfl) ?_
      refine lv_iconst (v := (4 : Int32)) hx hb d_m1144_69 (by decide) ?_
      refine lv_icmp_ge (tgt := 105) hx hb d_m1144_70 (by decide) (fun hc => ?_) (fun hc => ?_)
      · replace hf := (if_pos hc).symm.trans hf
        obtain rfl := Option.some.inj hf
        exact hE0  H locs ls hP hD hS (lv_sub hl [0, 1, 2] rfl)
      · replace hf := (if_neg hc).symm.trans hf
        refine lv_aload_n hx hb d_m1144_73 rfl (lv_at hl 0 rfl) ?_
        refine va_get (D := (dC, dI)) (ci := 11) (v := .ref a_mo_prediction) (C := "ScanCoderModel") (T := T_11) (N := 49) hx hb hts n0 hown hK hP 0 rfl rfl 38 (by decide) k2 (fun _ h9 => h9) rfl d_m1144_74 ?_
        refine lv_iload hx hb d_m1144_77 (lv_at hl 4 rfl) ?_
        refine lv_iload_n hx hb d_m1144_79 rfl (lv_at hl 2 rfl) ?_
        refine lv_if_eq (tgt := 87) hx hb d_m1144_80 (by decide) (fun hc => ?_) (fun hc => ?_)
        · replace hf := (if_pos hc).symm.trans hf
          exact J67_87 v4_67 hf H locs ls hP hD hS hl
        · replace hf := (if_neg hc).symm.trans hf
          refine lv_iload_n hx hb d_m1144_83 rfl (lv_at hl 3 rfl) ?_
          refine lv_if_eq (tgt := 91) hx hb d_m1144_84 (by decide) (fun hc => ?_) (fun hc => ?_)
          · replace hf := (if_pos hc).symm.trans hf
            refine lv_aload_n hx hb d_m1144_91 rfl (lv_at hl 0 rfl) ?_
            refine va_get (D := (dC, dI)) (ci := 11) (v := .ref a_mo_prediction) (C := "ScanCoderModel") (T := T_11) (N := 49) hx hb hts n0 hown hK hP 0 rfl rfl 38 (by decide) k2 (fun _ h9 => h9) rfl d_m1144_92 ?_
            refine lv_iload hx hb d_m1144_95 (lv_at hl 4 rfl) ?_
            obtain ⟨hi, hf⟩ := ob_if hf
            refine va_iald hx hb hK hP 13 0 rfl rfl hi d_m1144_97 ?_
            exact J67_98 v4_67 (mo_prediction_67 v4_67.toNatClampNeg) hf H locs ls hP hD hS hl
          · replace hf := (if_neg hc).symm.trans hf
            exact J67_87 v4_67 hf H locs ls hP hD hS hl
  have L120 : ∀ (v4_108 : Int32) (v2_4 : Int32) (v1_108 : Int32) (z : Int32 × Int32 × Int32 × Int32 × Int32 × (Nat → Int32) × (Nat → Int32)), (GW (dC, dI) A p l e (headSpec ws_m1144 rm_M_readAll).room s m args below meth c 0 0 Q 6 159 (w_M_readAll cI cB cS cT a_mo a_mo_h a_mo_v a_mo_across a_mo_ownAcross a_mo_ownDown a_mo_base a_mo_coefficients a_mo_lengths a_mo_codes a_mo_directOf a_mo_otherOf a_mo_data a_mo_prediction a_mo_down a_mo_before0 a_mo_draftCounts a_mo_draft a_mo_words a_mo_out a_mo_times a_mo_runBits a_mo_toCome a_mo_timesKept mo_thrown mo_width mo_height mo_many mo_unitsAcross mo_unitsDown mo_drafts mo_mask mo_first mo_last mo_before mo_bits mo_interval mo_size mo_outs mo_part mo_parted mo_failed mo_counting z.1 mo_runMany mo_comes z.2.1 z.2.2.1 z.2.2.2.1 z.2.2.2.2.1 mo_h mo_v mo_across mo_ownAcross mo_ownDown mo_base z.2.2.2.2.2.1 mo_lengths mo_codes mo_directOf mo_otherOf mo_data z.2.2.2.2.2.2) [(0, .ref a_mo), (1, .int v1_108), (2, .int v2_4), (4, .int v4_108)] []) → ∀ (k : Nat) (v5_120 : Int32) (mo_run_120 : Int32) (mo_at_120 : Int32) (mo_taken_120 : Int32) (mo_left_120 : Int32) (mo_fault_120 : Int32) (mo_coefficients_120 : Nat → Int32) (mo_prediction_120 : Nat → Int32), f_M_readAll_L120 v4_108 mo_mask mo_h mo_v v2_4 mo_unitsAcross mo_across mo_ownAcross mo_first mo_last mo_before mo_bits mo_size mo_base mo_lengths mo_codes mo_directOf mo_otherOf mo_data N k (v5_120, mo_run_120, mo_at_120, mo_taken_120, mo_left_120, mo_fault_120, mo_coefficients_120, mo_prediction_120) = some z → GW (dC, dI) A p l e (headSpec ws_m1144 rm_M_readAll).room s m args below meth c 0 0 Q 6 120 (w_M_readAll cI cB cS cT a_mo a_mo_h a_mo_v a_mo_across a_mo_ownAcross a_mo_ownDown a_mo_base a_mo_coefficients a_mo_lengths a_mo_codes a_mo_directOf a_mo_otherOf a_mo_data a_mo_prediction a_mo_down a_mo_before0 a_mo_draftCounts a_mo_draft a_mo_words a_mo_out a_mo_times a_mo_runBits a_mo_toCome a_mo_timesKept mo_thrown mo_width mo_height mo_many mo_unitsAcross mo_unitsDown mo_drafts mo_mask mo_first mo_last mo_before mo_bits mo_interval mo_size mo_outs mo_part mo_parted mo_failed mo_counting mo_run_120 mo_runMany mo_comes mo_at_120 mo_taken_120 mo_left_120 mo_fault_120 mo_h mo_v mo_across mo_ownAcross mo_ownDown mo_base mo_coefficients_120 mo_lengths mo_codes mo_directOf mo_otherOf mo_data mo_prediction_120) [(0, .ref a_mo), (1, .int v1_108), (2, .int v2_4), (4, .int v4_108), (5, .int v5_120)] [] := by
    intro v4_108 v2_4 v1_108 z hE0 k
    induction k with
    | zero =>
      intro v5_120 mo_run_120 mo_at_120 mo_taken_120 mo_left_120 mo_fault_120 mo_coefficients_120 mo_prediction_120 hf
      exact (it_zero hf).elim
    | succ k ih =>
      intro v5_120 mo_run_120 mo_at_120 mo_taken_120 mo_left_120 mo_fault_120 mo_coefficients_120 mo_prediction_120 hf H locs ls hP hD hS hl
      have hf : f_M_readAll_L120b v4_108 mo_mask mo_h mo_v v2_4 mo_unitsAcross mo_across mo_ownAcross mo_first mo_last mo_before mo_bits mo_size mo_base mo_lengths mo_codes mo_directOf mo_otherOf mo_data N (f_M_readAll_L120 v4_108 mo_mask mo_h mo_v v2_4 mo_unitsAcross mo_across mo_ownAcross mo_first mo_last mo_before mo_bits mo_size mo_base mo_lengths mo_codes mo_directOf mo_otherOf mo_data N k) v5_120 mo_run_120 mo_at_120 mo_taken_120 mo_left_120 mo_fault_120 mo_coefficients_120 mo_prediction_120 = some z := hf
      unfold f_M_readAll_L120b at hf
      refine lv_iload hx hb d_m1144_120 (lv_at hl 4 rfl) ?_
      refine lv_aload_n hx hb d_m1144_122 rfl (lv_at hl 0 rfl) ?_
      refine lv_iload hx hb d_m1144_123 (lv_at hl 3 rfl) ?_
      obtain ⟨z3, hz3, hf⟩ := ob_bind hf
      refine vp_callSi (g_run (va_runV (As := [.int v4_108]) (rest := [.int v5_120]) ⟨hx, hb, hml, hown, hts⟩ (c_M_blocksIn l dC dI cI cB cS cT N a_mo a_mo_h a_mo_v a_mo_across a_mo_down a_mo_ownAcross a_mo_ownDown a_mo_base a_mo_coefficients a_mo_before0 a_mo_draftCounts a_mo_draft a_mo_words a_mo_lengths a_mo_codes a_mo_directOf a_mo_otherOf a_mo_data a_mo_out a_mo_times a_mo_prediction a_mo_runBits a_mo_toCome a_mo_timesKept mo_thrown mo_width mo_height mo_many mo_unitsAcross mo_unitsDown mo_drafts mo_mask mo_first mo_last mo_before mo_bits mo_interval mo_size mo_outs mo_part mo_parted mo_failed mo_counting mo_run_120 mo_runMany mo_comes mo_at_120 mo_taken_120 mo_left_120 mo_fault_120 mo_h mo_v v4_108 z3 hz3) ⟨(callB_of 1 hts (gi tw_1081 rfl) rfl rfl rfl (hts _ (List.mem_cons_of_mem _ tw_16)) (hts _ (List.mem_cons_of_mem _ tw_1078)) (by decide +kernel) ⟨Nat.le_of_ble_eq_true rfl, Nat.le_of_ble_eq_true rfl⟩), hts _ (List.mem_cons_of_mem _ tw_1080), hts _ (List.mem_cons_of_mem _ ts_m1081)⟩ ⟨gp_blind, va_recv hK hP (ci := 11) (q0 := 0) rfl rfl, gp_at hKN (g_pm hP [0, 1, 2] rfl)⟩ rfl rfl hl.1 rfl (lv_room (Nat.le_of_ble_eq_true rfl)) d_m1144_125 ⟨Nat.zero_le _, Nat.zero_le _⟩)) (fun r hrz3 => ?_)
      have hrz3 := hrz3.symm
      subst hrz3
      refine W.eq (g2 := F0 m 128 ls [.int z3, .int v5_120]) rfl ?_
      refine lv_icmp_ge (tgt := 159) hx hb d_m1144_128 (by decide) (fun hc => ?_) (fun hc => ?_)
      · replace hf := (if_pos hc).symm.trans hf
        obtain rfl := Option.some.inj hf
        exact hE0  H locs ls hP hD hS (lv_sub hl [0, 1, 2, 3] rfl)
      · replace hf := (if_neg hc).symm.trans hf
        refine lv_aload_n hx hb d_m1144_131 rfl (lv_at hl 0 rfl) ?_
        refine va_get (D := (dC, dI)) (ci := 11) (v := .int mo_fault_120) (C := "ScanCoderModel") (T := T_11) (N := 49) hx hb hts n0 hown hK hP 0 rfl rfl 47 (by decide) k0 (fun _ h9 => h9) rfl d_m1144_132 ?_
        refine lv_if_ne (tgt := 159) hx hb d_m1144_135 (by decide) (fun hc => ?_) (fun hc => ?_)
        · replace hf := (if_neg hc).symm.trans hf
          obtain rfl := Option.some.inj hf
          exact hE0  H locs ls hP hD hS (lv_sub hl [0, 1, 2, 3] rfl)
        · replace hf := (if_pos hc).symm.trans hf
          refine lv_aload_n hx hb d_m1144_138 rfl (lv_at hl 0 rfl) ?_
          refine lv_iload hx hb d_m1144_139 (lv_at hl 3 rfl) ?_
          refine lv_aload_n hx hb d_m1144_141 rfl (lv_at hl 0 rfl) ?_
          refine lv_iload hx hb d_m1144_142 (lv_at hl 3 rfl) ?_
          refine lv_iload_n hx hb d_m1144_144 rfl (lv_at hl 2 rfl) ?_
          refine lv_iload hx hb d_m1144_145 (lv_at hl 4 rfl) ?_
          obtain ⟨z4, hz4, hf⟩ := ob_bind hf
          refine vp_callSi (g_run (va_runV (As := [.int v4_108, .int v2_4, .int v5_120]) (rest := [.int v4_108, .ref a_mo]) ⟨hx, hb, hml, hown, hts⟩ (c_M_blockOf l dC dI cI cB cS cT N a_mo a_mo_h a_mo_v a_mo_across a_mo_ownAcross a_mo_down a_mo_ownDown a_mo_base a_mo_coefficients a_mo_before0 a_mo_draftCounts a_mo_draft a_mo_words a_mo_lengths a_mo_codes a_mo_directOf a_mo_otherOf a_mo_data a_mo_out a_mo_times a_mo_prediction a_mo_runBits a_mo_toCome a_mo_timesKept mo_thrown mo_width mo_height mo_many mo_unitsAcross mo_unitsDown mo_drafts mo_mask mo_first mo_last mo_before mo_bits mo_interval mo_size mo_outs mo_part mo_parted mo_failed mo_counting mo_run_120 mo_runMany mo_comes mo_at_120 mo_taken_120 mo_left_120 mo_fault_120 mo_h mo_v mo_across mo_ownAcross v4_108 v2_4 v5_120 z4 hz4) ⟨(callB_of 3 hts (gi tw_1085 rfl) rfl rfl rfl (hts _ (List.mem_cons_of_mem _ tw_16)) (hts _ (List.mem_cons_of_mem _ tw_1082)) (by decide +kernel) ⟨Nat.le_of_ble_eq_true rfl, Nat.le_of_ble_eq_true rfl⟩), hts _ (List.mem_cons_of_mem _ tw_1084), hts _ (List.mem_cons_of_mem _ ts_m1085)⟩ ⟨gp_blind, va_recv hK hP (ci := 11) (q0 := 0) rfl rfl, gp_at hKN (g_pm hP [0, 1, 2, 3, 4] rfl)⟩ rfl rfl hl.1 rfl (lv_room (Nat.le_of_ble_eq_true rfl)) d_m1144_147 ⟨Nat.zero_le _, Nat.zero_le _⟩)) (fun r hrz4 => ?_)
          have hrz4 := hrz4.symm
          subst hrz4
          refine W.eq (g2 := F0 m 150 ls [.int z4, .int v4_108, .ref a_mo]) rfl ?_
          obtain ⟨z5, hz5, hf⟩ := ob_bind hf
          refine g_callv (wc := (w_M_readBlock cI cB cS cT a_mo a_mo_base a_mo_coefficients a_mo_lengths a_mo_codes a_mo_directOf a_mo_otherOf a_mo_data a_mo_prediction a_mo_h a_mo_v a_mo_across a_mo_down a_mo_ownAcross a_mo_ownDown a_mo_before0 a_mo_draftCounts a_mo_draft a_mo_words a_mo_out a_mo_times a_mo_runBits a_mo_toCome a_mo_timesKept mo_thrown mo_width mo_height mo_many mo_unitsAcross mo_unitsDown mo_drafts mo_mask mo_first mo_last mo_before mo_bits mo_interval mo_size mo_outs mo_part mo_parted mo_failed mo_counting mo_run_120 mo_runMany mo_comes mo_at_120 mo_taken_120 mo_left_120 mo_fault_120 mo_base mo_coefficients_120 mo_lengths mo_codes mo_directOf mo_otherOf mo_data mo_prediction_120)) (w1 := (w_M_readBlock cI cB cS cT a_mo a_mo_base a_mo_coefficients a_mo_lengths a_mo_codes a_mo_directOf a_mo_otherOf a_mo_data a_mo_prediction a_mo_h a_mo_v a_mo_across a_mo_down a_mo_ownAcross a_mo_ownDown a_mo_before0 a_mo_draftCounts a_mo_draft a_mo_words a_mo_out a_mo_times a_mo_runBits a_mo_toCome a_mo_timesKept mo_thrown mo_width mo_height mo_many mo_unitsAcross mo_unitsDown mo_drafts mo_mask mo_first mo_last mo_before mo_bits mo_interval mo_size mo_outs mo_part mo_parted mo_failed mo_counting z5.1 mo_runMany mo_comes z5.2.1 z5.2.2.1 z5.2.2.2.1 z5.2.2.2.2.1 mo_base z5.2.2.2.2.2.1 mo_lengths mo_codes mo_directOf mo_otherOf mo_data z5.2.2.2.2.2.2)) (w2 := (w_M_readAll cI cB cS cT a_mo a_mo_h a_mo_v a_mo_across a_mo_ownAcross a_mo_ownDown a_mo_base a_mo_coefficients a_mo_lengths a_mo_codes a_mo_directOf a_mo_otherOf a_mo_data a_mo_prediction a_mo_down a_mo_before0 a_mo_draftCounts a_mo_draft a_mo_words a_mo_out a_mo_times a_mo_runBits a_mo_toCome a_mo_timesKept mo_thrown mo_width mo_height mo_many mo_unitsAcross mo_unitsDown mo_drafts mo_mask mo_first mo_last mo_before mo_bits mo_interval mo_size mo_outs mo_part mo_parted mo_failed mo_counting z5.1 mo_runMany mo_comes z5.2.1 z5.2.2.1 z5.2.2.2.1 z5.2.2.2.2.1 mo_h mo_v mo_across mo_ownAcross mo_ownDown mo_base z5.2.2.2.2.2.1 mo_lengths mo_codes mo_directOf mo_otherOf mo_data z5.2.2.2.2.2.2)) [0, 6, 7, 8, 9, 10, 11, 12, 13] [some 0, none, none, none, none, none, some 1, some 2, some 3, some 4, some 5, some 6, some 7, some 8] hP hD hS hA rfl rfl rfl rfl (va_runV (As := [.int v4_108, .int z4]) (rest := []) ⟨hx, hb, hml, hown, hts⟩ (c_M_readBlock l dC dI cI cB cS cT N a_mo a_mo_base a_mo_coefficients a_mo_lengths a_mo_codes a_mo_directOf a_mo_otherOf a_mo_data a_mo_prediction a_mo_h a_mo_v a_mo_across a_mo_down a_mo_ownAcross a_mo_ownDown a_mo_before0 a_mo_draftCounts a_mo_draft a_mo_words a_mo_out a_mo_times a_mo_runBits a_mo_toCome a_mo_timesKept mo_thrown mo_width mo_height mo_many mo_unitsAcross mo_unitsDown mo_drafts mo_mask mo_first mo_last mo_before mo_bits mo_interval mo_size mo_outs mo_part mo_parted mo_failed mo_counting mo_run_120 mo_runMany mo_comes mo_at_120 mo_taken_120 mo_left_120 mo_fault_120 mo_base mo_coefficients_120 mo_lengths mo_codes mo_directOf mo_otherOf mo_data mo_prediction_120 v4_108 z4 H.size z5 hz5) ⟨(callB_of 2 hts (gi tw_1160 rfl) rfl rfl rfl (hts _ (List.mem_cons_of_mem _ tw_16)) (hts _ (List.mem_cons_of_mem _ tw_1157)) (by decide +kernel) ⟨Nat.le_of_ble_eq_true rfl, Nat.le_of_ble_eq_true rfl⟩), hts _ (List.mem_cons_of_mem _ tw_1159), hts _ (List.mem_cons_of_mem _ ts_m1160)⟩ ⟨g_blind, va_recv hK hP (ci := 11) (q0 := 0) rfl rfl, g_at hKN (g_pm hP [0, 6, 7, 8, 9, 10, 11, 12, 13] rfl) (hD.sub [0, 6, 7, 8, 9, 10, 11, 12, 13] (by decide) rfl)⟩ rfl rfl hl.1 rfl (lv_room (Nat.le_of_ble_eq_true rfl)) d_m1144_150 ⟨Nat.zero_le _, Nat.zero_le _⟩) (fun H locs hP hD hS => ?_)
          refine W.eq (g2 := F0 m 153 ls []) rfl ?_
          refine lv_iinc (v := v5_120 + (1 : Int32)) (lv' := [(5, .int (v5_120 + (1 : Int32))), (0, .ref a_mo), (1, .int v1_108), (2, .int v2_4), (4, .int v4_108)]) hx hb d_m1144_153 hl (k := 4) rfl rfl (by decide) rfl (fun ls hl => ?_)
          refine lv_goto (tgt := 120) hx hb d_m1144_156 (by decide) ?_
          exact ih (v5_120 + (1 : Int32)) z5.1 z5.2.1 z5.2.2.1 z5.2.2.2.1 z5.2.2.2.2.1 z5.2.2.2.2.2.1 z5.2.2.2.2.2.2 hf H locs ls hP hD hS (lv_sub hl [1, 2, 3, 4, 0] rfl)
  have L108 : ∀ (v1_108 : Int32) (v2_4 : Int32) (z : Int32 × Int32 × Int32 × Int32 × Int32 × (Nat → Int32) × (Nat → Int32)), (GW (dC, dI) A p l e (headSpec ws_m1144 rm_M_readAll).room s m args below meth c 0 0 Q 6 165 (w_M_readAll cI cB cS cT a_mo a_mo_h a_mo_v a_mo_across a_mo_ownAcross a_mo_ownDown a_mo_base a_mo_coefficients a_mo_lengths a_mo_codes a_mo_directOf a_mo_otherOf a_mo_data a_mo_prediction a_mo_down a_mo_before0 a_mo_draftCounts a_mo_draft a_mo_words a_mo_out a_mo_times a_mo_runBits a_mo_toCome a_mo_timesKept mo_thrown mo_width mo_height mo_many mo_unitsAcross mo_unitsDown mo_drafts mo_mask mo_first mo_last mo_before mo_bits mo_interval mo_size mo_outs mo_part mo_parted mo_failed mo_counting z.1 mo_runMany mo_comes z.2.1 z.2.2.1 z.2.2.2.1 z.2.2.2.2.1 mo_h mo_v mo_across mo_ownAcross mo_ownDown mo_base z.2.2.2.2.2.1 mo_lengths mo_codes mo_directOf mo_otherOf mo_data z.2.2.2.2.2.2) [(0, .ref a_mo), (1, .int v1_108), (2, .int v2_4)] []) → ∀ (k : Nat) (v4_108 : Int32) (mo_run_108 : Int32) (mo_at_108 : Int32) (mo_taken_108 : Int32) (mo_left_108 : Int32) (mo_fault_108 : Int32) (mo_coefficients_108 : Nat → Int32) (mo_prediction_108 : Nat → Int32), f_M_readAll_L108 mo_many mo_mask mo_h mo_v v2_4 mo_unitsAcross mo_across mo_ownAcross mo_first mo_last mo_before mo_bits mo_size mo_base mo_lengths mo_codes mo_directOf mo_otherOf mo_data N k (v4_108, mo_run_108, mo_at_108, mo_taken_108, mo_left_108, mo_fault_108, mo_coefficients_108, mo_prediction_108) = some z → GW (dC, dI) A p l e (headSpec ws_m1144 rm_M_readAll).room s m args below meth c 0 0 Q 6 108 (w_M_readAll cI cB cS cT a_mo a_mo_h a_mo_v a_mo_across a_mo_ownAcross a_mo_ownDown a_mo_base a_mo_coefficients a_mo_lengths a_mo_codes a_mo_directOf a_mo_otherOf a_mo_data a_mo_prediction a_mo_down a_mo_before0 a_mo_draftCounts a_mo_draft a_mo_words a_mo_out a_mo_times a_mo_runBits a_mo_toCome a_mo_timesKept mo_thrown mo_width mo_height mo_many mo_unitsAcross mo_unitsDown mo_drafts mo_mask mo_first mo_last mo_before mo_bits mo_interval mo_size mo_outs mo_part mo_parted mo_failed mo_counting mo_run_108 mo_runMany mo_comes mo_at_108 mo_taken_108 mo_left_108 mo_fault_108 mo_h mo_v mo_across mo_ownAcross mo_ownDown mo_base mo_coefficients_108 mo_lengths mo_codes mo_directOf mo_otherOf mo_data mo_prediction_108) [(0, .ref a_mo), (1, .int v1_108), (2, .int v2_4), (4, .int v4_108)] [] := by
    intro v1_108 v2_4 z hE0 k
    induction k with
    | zero =>
      intro v4_108 mo_run_108 mo_at_108 mo_taken_108 mo_left_108 mo_fault_108 mo_coefficients_108 mo_prediction_108 hf
      exact (it_zero hf).elim
    | succ k ih =>
      intro v4_108 mo_run_108 mo_at_108 mo_taken_108 mo_left_108 mo_fault_108 mo_coefficients_108 mo_prediction_108 hf H locs ls hP hD hS hl
      have J108_159 : ∀ (mo_run_j159 : Int32) (mo_at_j159 : Int32) (mo_taken_j159 : Int32) (mo_left_j159 : Int32) (mo_fault_j159 : Int32) (mo_coefficients_j159 : Nat → Int32) (mo_prediction_j159 : Nat → Int32), f_M_readAll_J108_159 N (f_M_readAll_L108 mo_many mo_mask mo_h mo_v v2_4 mo_unitsAcross mo_across mo_ownAcross mo_first mo_last mo_before mo_bits mo_size mo_base mo_lengths mo_codes mo_directOf mo_otherOf mo_data N k) v4_108 mo_run_j159 mo_at_j159 mo_taken_j159 mo_left_j159 mo_fault_j159 mo_coefficients_j159 mo_prediction_j159 = some z → GW (dC, dI) A p l e (headSpec ws_m1144 rm_M_readAll).room s m args below meth c 0 0 Q 6 159 (w_M_readAll cI cB cS cT a_mo a_mo_h a_mo_v a_mo_across a_mo_ownAcross a_mo_ownDown a_mo_base a_mo_coefficients a_mo_lengths a_mo_codes a_mo_directOf a_mo_otherOf a_mo_data a_mo_prediction a_mo_down a_mo_before0 a_mo_draftCounts a_mo_draft a_mo_words a_mo_out a_mo_times a_mo_runBits a_mo_toCome a_mo_timesKept mo_thrown mo_width mo_height mo_many mo_unitsAcross mo_unitsDown mo_drafts mo_mask mo_first mo_last mo_before mo_bits mo_interval mo_size mo_outs mo_part mo_parted mo_failed mo_counting mo_run_j159 mo_runMany mo_comes mo_at_j159 mo_taken_j159 mo_left_j159 mo_fault_j159 mo_h mo_v mo_across mo_ownAcross mo_ownDown mo_base mo_coefficients_j159 mo_lengths mo_codes mo_directOf mo_otherOf mo_data mo_prediction_j159) [(0, .ref a_mo), (1, .int v1_108), (2, .int v2_4), (4, .int v4_108)] [] := by
        intro mo_run_j159 mo_at_j159 mo_taken_j159 mo_left_j159 mo_fault_j159 mo_coefficients_j159 mo_prediction_j159 hf H locs ls hP hD hS hl
        unfold f_M_readAll_J108_159 at hf
        refine lv_iinc (v := v4_108 + (1 : Int32)) (lv' := [(4, .int (v4_108 + (1 : Int32))), (0, .ref a_mo), (1, .int v1_108), (2, .int v2_4)]) hx hb d_m1144_159 hl (k := 3) rfl rfl (by decide) rfl (fun ls hl => ?_)
        refine lv_goto (tgt := 108) hx hb d_m1144_162 (by decide) ?_
        exact ih (v4_108 + (1 : Int32)) mo_run_j159 mo_at_j159 mo_taken_j159 mo_left_j159 mo_fault_j159 mo_coefficients_j159 mo_prediction_j159 hf H locs ls hP hD hS (lv_sub hl [1, 2, 3, 0] rfl)
      have hf : f_M_readAll_L108b mo_many mo_mask mo_h mo_v v2_4 mo_unitsAcross mo_across mo_ownAcross mo_first mo_last mo_before mo_bits mo_size mo_base mo_lengths mo_codes mo_directOf mo_otherOf mo_data N (f_M_readAll_L108 mo_many mo_mask mo_h mo_v v2_4 mo_unitsAcross mo_across mo_ownAcross mo_first mo_last mo_before mo_bits mo_size mo_base mo_lengths mo_codes mo_directOf mo_otherOf mo_data N k) v4_108 mo_run_108 mo_at_108 mo_taken_108 mo_left_108 mo_fault_108 mo_coefficients_108 mo_prediction_108 = some z := hf
      unfold f_M_readAll_L108b at hf
      refine lv_iload hx hb d_m1144_108 (lv_at hl 3 rfl) ?_
      refine lv_aload_n hx hb d_m1144_110 rfl (lv_at hl 0 rfl) ?_
      refine va_get (D := (dC, dI)) (ci := 11) (v := .int mo_many) (C := "ScanCoderModel") (T := T_11) (N := 49) hx hb hts n0 hown hK hP 0 rfl rfl 3 (by decide) k3 (fun _ h9 => h9) rfl d_m1144_111 ?_
      refine lv_icmp_ge (tgt := 165) hx hb d_m1144_114 (by decide) (fun hc => ?_) (fun hc => ?_)
      · replace hf := (if_pos hc).symm.trans hf
        obtain rfl := Option.some.inj hf
        exact hE0  H locs ls hP hD hS (lv_sub hl [0, 1, 2] rfl)
      · replace hf := (if_neg hc).symm.trans hf
        refine lv_iconst (v := (0 : Int32)) hx hb d_m1144_117 (by decide) ?_
        refine lv_istore (lv' := [(5, .int (0 : Int32)), (0, .ref a_mo), (1, .int v1_108), (2, .int v2_4), (4, .int v4_108)]) hx hb d_m1144_118 hl (by decide) rfl (fun ls hl => ?_)
        obtain ⟨z6, hz6, hf⟩ := ob_bind hf
        refine L120 v4_108 v2_4 v1_108 z6 ?_ N (0 : Int32) mo_run_108 mo_at_108 mo_taken_108 mo_left_108 mo_fault_108 mo_coefficients_108 mo_prediction_108 hz6 H locs ls hP hD hS (lv_sub hl [1, 2, 3, 4, 0] rfl)
        · intro H locs ls hP hD hS hl
          exact J108_159 z6.1 z6.2.1 z6.2.2.1 z6.2.2.2.1 z6.2.2.2.2.1 z6.2.2.2.2.2.1 z6.2.2.2.2.2.2 hf H locs ls hP hD hS hl
  have L4 : ∀  (z : Int32 × Int32 × Int32 × Int32 × Int32 × (Nat → Int32) × (Nat → Int32)), (GW (dC, dI) A p l e (headSpec ws_m1144 rm_M_readAll).room s m args below meth c 0 0 Q 6 171 (w_M_readAll cI cB cS cT a_mo a_mo_h a_mo_v a_mo_across a_mo_ownAcross a_mo_ownDown a_mo_base a_mo_coefficients a_mo_lengths a_mo_codes a_mo_directOf a_mo_otherOf a_mo_data a_mo_prediction a_mo_down a_mo_before0 a_mo_draftCounts a_mo_draft a_mo_words a_mo_out a_mo_times a_mo_runBits a_mo_toCome a_mo_timesKept mo_thrown mo_width mo_height mo_many mo_unitsAcross mo_unitsDown mo_drafts mo_mask mo_first mo_last mo_before mo_bits mo_interval mo_size mo_outs mo_part mo_parted mo_failed mo_counting z.1 mo_runMany mo_comes z.2.1 z.2.2.1 z.2.2.2.1 z.2.2.2.2.1 mo_h mo_v mo_across mo_ownAcross mo_ownDown mo_base z.2.2.2.2.2.1 mo_lengths mo_codes mo_directOf mo_otherOf mo_data z.2.2.2.2.2.2) [(0, .ref a_mo)] []) → ∀ (k : Nat) (v1_4 : Int32) (v2_4 : Int32) (mo_run_4 : Int32) (mo_at_4 : Int32) (mo_taken_4 : Int32) (mo_left_4 : Int32) (mo_fault_4 : Int32) (mo_coefficients_4 : Nat → Int32) (mo_prediction_4 : Nat → Int32), f_M_readAll_L4 mo_unitsAcross mo_unitsDown mo_mask mo_ownAcross mo_ownDown mo_interval mo_many mo_h mo_v mo_across mo_first mo_last mo_before mo_bits mo_size mo_base mo_lengths mo_codes mo_directOf mo_otherOf mo_data N k (v1_4, v2_4, mo_run_4, mo_at_4, mo_taken_4, mo_left_4, mo_fault_4, mo_coefficients_4, mo_prediction_4) = some z → GW (dC, dI) A p l e (headSpec ws_m1144 rm_M_readAll).room s m args below meth c 0 0 Q 6 4 (w_M_readAll cI cB cS cT a_mo a_mo_h a_mo_v a_mo_across a_mo_ownAcross a_mo_ownDown a_mo_base a_mo_coefficients a_mo_lengths a_mo_codes a_mo_directOf a_mo_otherOf a_mo_data a_mo_prediction a_mo_down a_mo_before0 a_mo_draftCounts a_mo_draft a_mo_words a_mo_out a_mo_times a_mo_runBits a_mo_toCome a_mo_timesKept mo_thrown mo_width mo_height mo_many mo_unitsAcross mo_unitsDown mo_drafts mo_mask mo_first mo_last mo_before mo_bits mo_interval mo_size mo_outs mo_part mo_parted mo_failed mo_counting mo_run_4 mo_runMany mo_comes mo_at_4 mo_taken_4 mo_left_4 mo_fault_4 mo_h mo_v mo_across mo_ownAcross mo_ownDown mo_base mo_coefficients_4 mo_lengths mo_codes mo_directOf mo_otherOf mo_data mo_prediction_4) [(0, .ref a_mo), (1, .int v1_4), (2, .int v2_4)] [] := by
    intro  z hE0 k
    induction k with
    | zero =>
      intro v1_4 v2_4 mo_run_4 mo_at_4 mo_taken_4 mo_left_4 mo_fault_4 mo_coefficients_4 mo_prediction_4 hf
      exact (it_zero hf).elim
    | succ k ih =>
      intro v1_4 v2_4 mo_run_4 mo_at_4 mo_taken_4 mo_left_4 mo_fault_4 mo_coefficients_4 mo_prediction_4 hf H locs ls hP hD hS hl
      have J4_64 : ∀ (v1_j64 : Int32) (v3_j64 : Int32) (mo_at_j64 : Int32) (mo_left_j64 : Int32) (mo_fault_j64 : Int32), f_M_readAll_J4_64 N (f_M_readAll_L4 mo_unitsAcross mo_unitsDown mo_mask mo_ownAcross mo_ownDown mo_interval mo_many mo_h mo_v mo_across mo_first mo_last mo_before mo_bits mo_size mo_base mo_lengths mo_codes mo_directOf mo_otherOf mo_data N k) v2_4 v3_j64 mo_prediction_4 mo_many mo_mask mo_h mo_v mo_unitsAcross mo_across mo_ownAcross mo_first mo_last mo_before mo_bits mo_size mo_base mo_lengths mo_codes mo_directOf mo_otherOf mo_data mo_run_4 mo_at_j64 mo_taken_4 mo_left_j64 mo_fault_j64 mo_coefficients_4 v1_j64 = some z → GW (dC, dI) A p l e (headSpec ws_m1144 rm_M_readAll).room s m args below meth c 0 0 Q 6 64 (w_M_readAll cI cB cS cT a_mo a_mo_h a_mo_v a_mo_across a_mo_ownAcross a_mo_ownDown a_mo_base a_mo_coefficients a_mo_lengths a_mo_codes a_mo_directOf a_mo_otherOf a_mo_data a_mo_prediction a_mo_down a_mo_before0 a_mo_draftCounts a_mo_draft a_mo_words a_mo_out a_mo_times a_mo_runBits a_mo_toCome a_mo_timesKept mo_thrown mo_width mo_height mo_many mo_unitsAcross mo_unitsDown mo_drafts mo_mask mo_first mo_last mo_before mo_bits mo_interval mo_size mo_outs mo_part mo_parted mo_failed mo_counting mo_run_4 mo_runMany mo_comes mo_at_j64 mo_taken_4 mo_left_j64 mo_fault_j64 mo_h mo_v mo_across mo_ownAcross mo_ownDown mo_base mo_coefficients_4 mo_lengths mo_codes mo_directOf mo_otherOf mo_data mo_prediction_4) [(0, .ref a_mo), (1, .int v1_j64), (2, .int v2_4), (3, .int v3_j64)] [] := by
        intro v1_j64 v3_j64 mo_at_j64 mo_left_j64 mo_fault_j64 hf H locs ls hP hD hS hl
        unfold f_M_readAll_J4_64 at hf
        refine lv_iconst (v := (0 : Int32)) hx hb d_m1144_64 (by decide) ?_
        refine lv_istore (lv' := [(4, .int (0 : Int32)), (0, .ref a_mo), (1, .int v1_j64), (2, .int v2_4), (3, .int v3_j64)]) hx hb d_m1144_65 hl (by decide) rfl (fun ls hl => ?_)
        obtain ⟨z2, hz2, hf⟩ := ob_bind hf
        refine L67 v1_j64 v3_j64 mo_at_j64 mo_left_j64 mo_fault_j64 v2_4 mo_run_4 mo_taken_4 mo_coefficients_4 z2 ?_ N (0 : Int32) mo_prediction_4 hz2 H locs ls hP hD hS (lv_sub hl [1, 2, 3, 4, 0] rfl)
        · intro H locs ls hP hD hS hl
          refine lv_iconst (v := (0 : Int32)) hx hb d_m1144_105 (by decide) ?_
          refine lv_istore (lv' := [(4, .int (0 : Int32)), (0, .ref a_mo), (1, .int v1_j64), (2, .int v2_4)]) hx hb d_m1144_106 hl (by decide) rfl (fun ls hl => ?_)
          obtain ⟨z7, hz7, hf⟩ := ob_bind hf
          refine L108 v1_j64 v2_4 z7 ?_ N (0 : Int32) mo_run_4 mo_at_j64 mo_taken_4 mo_left_j64 mo_fault_j64 mo_coefficients_4 z2 hz7 H locs ls hP hD hS (lv_sub hl [1, 2, 3, 0] rfl)
          · intro H locs ls hP hD hS hl
            refine lv_iinc (v := v2_4 + (1 : Int32)) (lv' := [(2, .int (v2_4 + (1 : Int32))), (0, .ref a_mo), (1, .int v1_j64)]) hx hb d_m1144_165 hl (k := 2) rfl rfl (by decide) rfl (fun ls hl => ?_)
            refine lv_goto (tgt := 4) hx hb d_m1144_168 (by decide) ?_
            exact ih v1_j64 (v2_4 + (1 : Int32)) z7.1 z7.2.1 z7.2.2.1 z7.2.2.2.1 z7.2.2.2.2.1 z7.2.2.2.2.2.1 z7.2.2.2.2.2.2 hf H locs ls hP hD hS (lv_sub hl [1, 2, 0] rfl)
      have J4_44 : ∀ (s0_j44 : Int32), f_M_readAll_J4_44 N (f_M_readAll_L4 mo_unitsAcross mo_unitsDown mo_mask mo_ownAcross mo_ownDown mo_interval mo_many mo_h mo_v mo_across mo_first mo_last mo_before mo_bits mo_size mo_base mo_lengths mo_codes mo_directOf mo_otherOf mo_data N k) s0_j44 v2_4 mo_prediction_4 mo_many mo_mask mo_h mo_v mo_unitsAcross mo_across mo_ownAcross mo_first mo_last mo_before mo_bits mo_size mo_base mo_lengths mo_codes mo_directOf mo_otherOf mo_data mo_run_4 mo_at_4 mo_taken_4 mo_left_4 mo_fault_4 mo_coefficients_4 v1_4 = some z → GW (dC, dI) A p l e (headSpec ws_m1144 rm_M_readAll).room s m args below meth c 0 0 Q 6 44 (w_M_readAll cI cB cS cT a_mo a_mo_h a_mo_v a_mo_across a_mo_ownAcross a_mo_ownDown a_mo_base a_mo_coefficients a_mo_lengths a_mo_codes a_mo_directOf a_mo_otherOf a_mo_data a_mo_prediction a_mo_down a_mo_before0 a_mo_draftCounts a_mo_draft a_mo_words a_mo_out a_mo_times a_mo_runBits a_mo_toCome a_mo_timesKept mo_thrown mo_width mo_height mo_many mo_unitsAcross mo_unitsDown mo_drafts mo_mask mo_first mo_last mo_before mo_bits mo_interval mo_size mo_outs mo_part mo_parted mo_failed mo_counting mo_run_4 mo_runMany mo_comes mo_at_4 mo_taken_4 mo_left_4 mo_fault_4 mo_h mo_v mo_across mo_ownAcross mo_ownDown mo_base mo_coefficients_4 mo_lengths mo_codes mo_directOf mo_otherOf mo_data mo_prediction_4) [(0, .ref a_mo), (1, .int v1_4), (2, .int v2_4)] [.int s0_j44] := by
        intro s0_j44 hf H locs ls hP hD hS hl
        unfold f_M_readAll_J4_44 at hf
        refine lv_istore_n (lv' := [(3, .int s0_j44), (0, .ref a_mo), (1, .int v1_4), (2, .int v2_4)]) hx hb d_m1144_44 rfl hl (by decide) rfl (fun ls hl => ?_)
        refine lv_iload_n hx hb d_m1144_45 rfl (lv_at hl 0 rfl) ?_
        refine lv_if_eq (tgt := 64) hx hb d_m1144_46 (by decide) (fun hc => ?_) (fun hc => ?_)
        · replace hf := (if_pos hc).symm.trans hf
          exact J4_64 v1_4 s0_j44 mo_at_4 mo_left_4 mo_fault_4 hf H locs ls hP hD hS (lv_sub hl [1, 2, 3, 0] rfl)
        · replace hf := (if_neg hc).symm.trans hf
          refine lv_aload_n hx hb d_m1144_49 rfl (lv_at hl 1 rfl) ?_
          refine lv_sipush (v := (208 : Int32)) hx hb d_m1144_50 (by decide) ?_
          refine lv_iload_n hx hb d_m1144_53 rfl (lv_at hl 2 rfl) ?_
          refine lv_bipush (v := (8 : Int32)) hx hb d_m1144_54 (by decide) ?_
          refine lv_irem hx hb d_m1144_56 (by decide) ?_
          refine lv_iadd hx hb d_m1144_57 ?_
          obtain ⟨z8, hz8, hf⟩ := ob_bind hf
          refine g_callv (wc := (w_M_finish cI cB cS cT a_mo a_mo_data a_mo_h a_mo_v a_mo_across a_mo_down a_mo_ownAcross a_mo_ownDown a_mo_base a_mo_coefficients a_mo_before0 a_mo_draftCounts a_mo_draft a_mo_words a_mo_lengths a_mo_codes a_mo_directOf a_mo_otherOf a_mo_out a_mo_times a_mo_prediction a_mo_runBits a_mo_toCome a_mo_timesKept mo_thrown mo_width mo_height mo_many mo_unitsAcross mo_unitsDown mo_drafts mo_mask mo_first mo_last mo_before mo_bits mo_interval mo_size mo_outs mo_part mo_parted mo_failed mo_counting mo_run_4 mo_runMany mo_comes mo_at_4 mo_taken_4 mo_left_4 mo_fault_4 mo_data)) (w1 := (w_M_finish cI cB cS cT a_mo a_mo_data a_mo_h a_mo_v a_mo_across a_mo_down a_mo_ownAcross a_mo_ownDown a_mo_base a_mo_coefficients a_mo_before0 a_mo_draftCounts a_mo_draft a_mo_words a_mo_lengths a_mo_codes a_mo_directOf a_mo_otherOf a_mo_out a_mo_times a_mo_prediction a_mo_runBits a_mo_toCome a_mo_timesKept mo_thrown mo_width mo_height mo_many mo_unitsAcross mo_unitsDown mo_drafts mo_mask mo_first mo_last mo_before mo_bits mo_interval mo_size mo_outs mo_part mo_parted mo_failed mo_counting mo_run_4 mo_runMany mo_comes z8.1 mo_taken_4 z8.2.1 z8.2.2 mo_data)) (w2 := (w_M_readAll cI cB cS cT a_mo a_mo_h a_mo_v a_mo_across a_mo_ownAcross a_mo_ownDown a_mo_base a_mo_coefficients a_mo_lengths a_mo_codes a_mo_directOf a_mo_otherOf a_mo_data a_mo_prediction a_mo_down a_mo_before0 a_mo_draftCounts a_mo_draft a_mo_words a_mo_out a_mo_times a_mo_runBits a_mo_toCome a_mo_timesKept mo_thrown mo_width mo_height mo_many mo_unitsAcross mo_unitsDown mo_drafts mo_mask mo_first mo_last mo_before mo_bits mo_interval mo_size mo_outs mo_part mo_parted mo_failed mo_counting mo_run_4 mo_runMany mo_comes z8.1 mo_taken_4 z8.2.1 z8.2.2 mo_h mo_v mo_across mo_ownAcross mo_ownDown mo_base mo_coefficients_4 mo_lengths mo_codes mo_directOf mo_otherOf mo_data mo_prediction_4)) [0, 12] [some 0, none, none, none, none, none, none, none, none, none, none, none, some 1, none] hP hD hS hA rfl rfl rfl rfl (va_runV (As := [.int ((208 : Int32) + (v1_4 - v1_4 / (8 : Int32) * (8 : Int32)))]) (rest := []) ⟨hx, hb, hml, hown, hts⟩ (c_M_finish l dC dI cI cB cS cT N a_mo a_mo_data a_mo_h a_mo_v a_mo_across a_mo_down a_mo_ownAcross a_mo_ownDown a_mo_base a_mo_coefficients a_mo_before0 a_mo_draftCounts a_mo_draft a_mo_words a_mo_lengths a_mo_codes a_mo_directOf a_mo_otherOf a_mo_out a_mo_times a_mo_prediction a_mo_runBits a_mo_toCome a_mo_timesKept mo_thrown mo_width mo_height mo_many mo_unitsAcross mo_unitsDown mo_drafts mo_mask mo_first mo_last mo_before mo_bits mo_interval mo_size mo_outs mo_part mo_parted mo_failed mo_counting mo_run_4 mo_runMany mo_comes mo_at_4 mo_taken_4 mo_left_4 mo_fault_4 mo_data ((208 : Int32) + (v1_4 - v1_4 / (8 : Int32) * (8 : Int32))) H.size z8 hz8) ⟨(callB_of 1 hts (gi tw_1148 rfl) rfl rfl rfl (hts _ (List.mem_cons_of_mem _ tw_16)) (hts _ (List.mem_cons_of_mem _ tw_1145)) (by decide +kernel) ⟨Nat.le_of_ble_eq_true rfl, Nat.le_of_ble_eq_true rfl⟩), hts _ (List.mem_cons_of_mem _ tw_1147), hts _ (List.mem_cons_of_mem _ ts_m1148)⟩ ⟨g_blind, va_recv hK hP (ci := 11) (q0 := 0) rfl rfl, g_at hKN (g_pm hP [0, 12] rfl) (hD.sub [0, 12] (by decide) rfl)⟩ rfl rfl hl.1 rfl (lv_room (Nat.le_of_ble_eq_true rfl)) d_m1144_58 ⟨Nat.zero_le _, Nat.zero_le _⟩) (fun H locs hP hD hS => ?_)
          refine W.eq (g2 := F0 m 61 ls []) rfl ?_
          refine lv_iinc (v := v1_4 + (1 : Int32)) (lv' := [(1, .int (v1_4 + (1 : Int32))), (3, .int s0_j44), (0, .ref a_mo), (2, .int v2_4)]) hx hb d_m1144_61 hl (k := 2) rfl rfl (by decide) rfl (fun ls hl => ?_)
          exact J4_64 (v1_4 + (1 : Int32)) s0_j44 z8.1 z8.2.1 z8.2.2 hf H locs ls hP hD hS (lv_sub hl [2, 0, 3, 1] rfl)
      have J4_43 : ∀ (_ : Unit), f_M_readAll_J4_43 N (f_M_readAll_L4 mo_unitsAcross mo_unitsDown mo_mask mo_ownAcross mo_ownDown mo_interval mo_many mo_h mo_v mo_across mo_first mo_last mo_before mo_bits mo_size mo_base mo_lengths mo_codes mo_directOf mo_otherOf mo_data N k) v2_4 mo_prediction_4 mo_many mo_mask mo_h mo_v mo_unitsAcross mo_across mo_ownAcross mo_first mo_last mo_before mo_bits mo_size mo_base mo_lengths mo_codes mo_directOf mo_otherOf mo_data mo_run_4 mo_at_4 mo_taken_4 mo_left_4 mo_fault_4 mo_coefficients_4 v1_4 = some z → GW (dC, dI) A p l e (headSpec ws_m1144 rm_M_readAll).room s m args below meth c 0 0 Q 6 43 (w_M_readAll cI cB cS cT a_mo a_mo_h a_mo_v a_mo_across a_mo_ownAcross a_mo_ownDown a_mo_base a_mo_coefficients a_mo_lengths a_mo_codes a_mo_directOf a_mo_otherOf a_mo_data a_mo_prediction a_mo_down a_mo_before0 a_mo_draftCounts a_mo_draft a_mo_words a_mo_out a_mo_times a_mo_runBits a_mo_toCome a_mo_timesKept mo_thrown mo_width mo_height mo_many mo_unitsAcross mo_unitsDown mo_drafts mo_mask mo_first mo_last mo_before mo_bits mo_interval mo_size mo_outs mo_part mo_parted mo_failed mo_counting mo_run_4 mo_runMany mo_comes mo_at_4 mo_taken_4 mo_left_4 mo_fault_4 mo_h mo_v mo_across mo_ownAcross mo_ownDown mo_base mo_coefficients_4 mo_lengths mo_codes mo_directOf mo_otherOf mo_data mo_prediction_4) [(0, .ref a_mo), (1, .int v1_4), (2, .int v2_4)] [] := by
        intro _ hf H locs ls hP hD hS hl
        unfold f_M_readAll_J4_43 at hf
        refine lv_iconst (v := (0 : Int32)) hx hb d_m1144_43 (by decide) ?_
        exact J4_44 (0 : Int32) hf H locs ls hP hD hS hl
      have hf : f_M_readAll_L4b mo_unitsAcross mo_unitsDown mo_mask mo_ownAcross mo_ownDown mo_interval mo_many mo_h mo_v mo_across mo_first mo_last mo_before mo_bits mo_size mo_base mo_lengths mo_codes mo_directOf mo_otherOf mo_data N (f_M_readAll_L4 mo_unitsAcross mo_unitsDown mo_mask mo_ownAcross mo_ownDown mo_interval mo_many mo_h mo_v mo_across mo_first mo_last mo_before mo_bits mo_size mo_base mo_lengths mo_codes mo_directOf mo_otherOf mo_data N k) v1_4 v2_4 mo_run_4 mo_at_4 mo_taken_4 mo_left_4 mo_fault_4 mo_coefficients_4 mo_prediction_4 = some z := hf
      unfold f_M_readAll_L4b at hf
      refine lv_iload_n hx hb d_m1144_4 rfl (lv_at hl 2 rfl) ?_
      refine lv_aload_n hx hb d_m1144_5 rfl (lv_at hl 0 rfl) ?_
      obtain ⟨z1, hz1, hf⟩ := ob_bind hf
      refine vp_callSi (g_run (va_runV (As := []) (rest := [.int v2_4]) ⟨hx, hb, hml, hown, hts⟩ (c_M_units l dC dI cI cB cS cT N a_mo a_mo_ownAcross a_mo_ownDown a_mo_h a_mo_v a_mo_across a_mo_down a_mo_base a_mo_coefficients a_mo_before0 a_mo_draftCounts a_mo_draft a_mo_words a_mo_lengths a_mo_codes a_mo_directOf a_mo_otherOf a_mo_data a_mo_out a_mo_times a_mo_prediction a_mo_runBits a_mo_toCome a_mo_timesKept mo_thrown mo_width mo_height mo_many mo_unitsAcross mo_unitsDown mo_drafts mo_mask mo_first mo_last mo_before mo_bits mo_interval mo_size mo_outs mo_part mo_parted mo_failed mo_counting mo_run_4 mo_runMany mo_comes mo_at_4 mo_taken_4 mo_left_4 mo_fault_4 mo_ownAcross mo_ownDown z1 hz1) ⟨(callB_of 0 hts (gi tw_1050 rfl) rfl rfl rfl (hts _ (List.mem_cons_of_mem _ tw_16)) (hts _ (List.mem_cons_of_mem _ tw_1047)) (by decide +kernel) ⟨Nat.le_of_ble_eq_true rfl, Nat.le_of_ble_eq_true rfl⟩), hts _ (List.mem_cons_of_mem _ tw_1049), hts _ (List.mem_cons_of_mem _ ts_m1050)⟩ ⟨gp_blind, va_recv hK hP (ci := 11) (q0 := 0) rfl rfl, gp_at hKN (g_pm hP [0, 4, 5] rfl)⟩ rfl rfl hl.1 rfl (lv_room (Nat.le_of_ble_eq_true rfl)) d_m1144_6 ⟨Nat.zero_le _, Nat.zero_le _⟩)) (fun r hrz1 => ?_)
      have hrz1 := hrz1.symm
      subst hrz1
      refine W.eq (g2 := F0 m 9 ls [.int z1, .int v2_4]) rfl ?_
      refine lv_icmp_ge (tgt := 171) hx hb d_m1144_9 (by decide) (fun hc => ?_) (fun hc => ?_)
      · replace hf := (if_pos hc).symm.trans hf
        obtain rfl := Option.some.inj hf
        exact hE0  H locs ls hP hD hS (lv_sub hl [0] rfl)
      · replace hf := (if_neg hc).symm.trans hf
        refine lv_aload_n hx hb d_m1144_12 rfl (lv_at hl 0 rfl) ?_
        refine va_get (D := (dC, dI)) (ci := 11) (v := .int mo_fault_4) (C := "ScanCoderModel") (T := T_11) (N := 49) hx hb hts n0 hown hK hP 0 rfl rfl 47 (by decide) k0 (fun _ h9 => h9) rfl d_m1144_13 ?_
        refine lv_if_ne (tgt := 171) hx hb d_m1144_16 (by decide) (fun hc => ?_) (fun hc => ?_)
        · replace hf := (if_neg hc).symm.trans hf
          obtain rfl := Option.some.inj hf
          exact hE0  H locs ls hP hD hS (lv_sub hl [0] rfl)
        · replace hf := (if_pos hc).symm.trans hf
          refine lv_aload_n hx hb d_m1144_19 rfl (lv_at hl 0 rfl) ?_
          refine va_get (D := (dC, dI)) (ci := 11) (v := .int mo_interval) (C := "ScanCoderModel") (T := T_11) (N := 49) hx hb hts n0 hown hK hP 0 rfl rfl 28 (by decide) k1 (fun _ h9 => h9) rfl d_m1144_20 ?_
          refine lv_if_le (tgt := 43) hx hb d_m1144_23 (by decide) (fun hc => ?_) (fun hc => ?_)
          · replace hf := (if_pos hc).symm.trans hf
            exact J4_43 () hf H locs ls hP hD hS hl
          · replace hf := (if_neg hc).symm.trans hf
            refine lv_iload_n hx hb d_m1144_26 rfl (lv_at hl 2 rfl) ?_
            refine lv_if_le (tgt := 43) hx hb d_m1144_27 (by decide) (fun hc => ?_) (fun hc => ?_)
            · replace hf := (if_pos hc).symm.trans hf
              exact J4_43 () hf H locs ls hP hD hS hl
            · replace hf := (if_neg hc).symm.trans hf
              refine lv_iload_n hx hb d_m1144_30 rfl (lv_at hl 2 rfl) ?_
              refine lv_aload_n hx hb d_m1144_31 rfl (lv_at hl 0 rfl) ?_
              refine va_get (D := (dC, dI)) (ci := 11) (v := .int mo_interval) (C := "ScanCoderModel") (T := T_11) (N := 49) hx hb hts n0 hown hK hP 0 rfl rfl 28 (by decide) k1 (fun _ h9 => h9) rfl d_m1144_32 ?_
              obtain ⟨hi, hf⟩ := ob_if hf
              refine lv_irem hx hb d_m1144_35 hi ?_
              refine lv_if_ne (tgt := 43) hx hb d_m1144_36 (by decide) (fun hc => ?_) (fun hc => ?_)
              · replace hf := (if_neg hc).symm.trans hf
                exact J4_43 () hf H locs ls hP hD hS hl
              · replace hf := (if_pos hc).symm.trans hf
                refine lv_iconst (v := (1 : Int32)) hx hb d_m1144_39 (by decide) ?_
                refine lv_goto (tgt := 44) hx hb d_m1144_40 (by decide) ?_
                exact J4_44 (1 : Int32) hf H locs ls hP hD hS hl
  have J171 : ∀ (mo_run_j171 : Int32) (mo_at_j171 : Int32) (mo_taken_j171 : Int32) (mo_left_j171 : Int32) (mo_fault_j171 : Int32) (mo_coefficients_j171 : Nat → Int32) (mo_prediction_j171 : Nat → Int32), f_M_readAll_J171 N mo_fault_j171 mo_size mo_run_j171 mo_at_j171 mo_taken_j171 mo_left_j171 mo_data mo_coefficients_j171 mo_prediction_j171 = some z → GW (dC, dI) A p l e (headSpec ws_m1144 rm_M_readAll).room s m args below meth c 0 0 Q 6 171 (w_M_readAll cI cB cS cT a_mo a_mo_h a_mo_v a_mo_across a_mo_ownAcross a_mo_ownDown a_mo_base a_mo_coefficients a_mo_lengths a_mo_codes a_mo_directOf a_mo_otherOf a_mo_data a_mo_prediction a_mo_down a_mo_before0 a_mo_draftCounts a_mo_draft a_mo_words a_mo_out a_mo_times a_mo_runBits a_mo_toCome a_mo_timesKept mo_thrown mo_width mo_height mo_many mo_unitsAcross mo_unitsDown mo_drafts mo_mask mo_first mo_last mo_before mo_bits mo_interval mo_size mo_outs mo_part mo_parted mo_failed mo_counting mo_run_j171 mo_runMany mo_comes mo_at_j171 mo_taken_j171 mo_left_j171 mo_fault_j171 mo_h mo_v mo_across mo_ownAcross mo_ownDown mo_base mo_coefficients_j171 mo_lengths mo_codes mo_directOf mo_otherOf mo_data mo_prediction_j171) [(0, .ref a_mo)] [] := by
    intro mo_run_j171 mo_at_j171 mo_taken_j171 mo_left_j171 mo_fault_j171 mo_coefficients_j171 mo_prediction_j171 hf H locs ls hP hD hS hl
    unfold f_M_readAll_J171 at hf
    refine lv_aload_n hx hb d_m1144_171 rfl (lv_at hl 0 rfl) ?_
    refine va_get (D := (dC, dI)) (ci := 11) (v := .int mo_fault_j171) (C := "ScanCoderModel") (T := T_11) (N := 49) hx hb hts n0 hown hK hP 0 rfl rfl 47 (by decide) k0 (fun _ h9 => h9) rfl d_m1144_172 ?_
    refine lv_if_ne (tgt := 183) hx hb d_m1144_175 (by decide) (fun hc => ?_) (fun hc => ?_)
    · replace hf := (if_neg hc).symm.trans hf
      obtain rfl := Option.some.inj hf
      subst hQ
      subst hAe
      exact W.vret hx hb hr (fun t ht hW => ⟨⟨(), rfl, trivial, by rw [ht]; exact hP, hD⟩, hS.F ht⟩) hS.2.2 d_m1144_183
    · replace hf := (if_pos hc).symm.trans hf
      refine lv_aload_n hx hb d_m1144_178 rfl (lv_at hl 0 rfl) ?_
      refine lv_iconst (v := (0 : Int32)) hx hb d_m1144_179 (by decide) ?_
      obtain ⟨z10, hz10, hf⟩ := ob_bind hf
      refine g_callv (wc := (w_M_finish cI cB cS cT a_mo a_mo_data a_mo_h a_mo_v a_mo_across a_mo_down a_mo_ownAcross a_mo_ownDown a_mo_base a_mo_coefficients a_mo_before0 a_mo_draftCounts a_mo_draft a_mo_words a_mo_lengths a_mo_codes a_mo_directOf a_mo_otherOf a_mo_out a_mo_times a_mo_prediction a_mo_runBits a_mo_toCome a_mo_timesKept mo_thrown mo_width mo_height mo_many mo_unitsAcross mo_unitsDown mo_drafts mo_mask mo_first mo_last mo_before mo_bits mo_interval mo_size mo_outs mo_part mo_parted mo_failed mo_counting mo_run_j171 mo_runMany mo_comes mo_at_j171 mo_taken_j171 mo_left_j171 mo_fault_j171 mo_data)) (w1 := (w_M_finish cI cB cS cT a_mo a_mo_data a_mo_h a_mo_v a_mo_across a_mo_down a_mo_ownAcross a_mo_ownDown a_mo_base a_mo_coefficients a_mo_before0 a_mo_draftCounts a_mo_draft a_mo_words a_mo_lengths a_mo_codes a_mo_directOf a_mo_otherOf a_mo_out a_mo_times a_mo_prediction a_mo_runBits a_mo_toCome a_mo_timesKept mo_thrown mo_width mo_height mo_many mo_unitsAcross mo_unitsDown mo_drafts mo_mask mo_first mo_last mo_before mo_bits mo_interval mo_size mo_outs mo_part mo_parted mo_failed mo_counting mo_run_j171 mo_runMany mo_comes z10.1 mo_taken_j171 z10.2.1 z10.2.2 mo_data)) (w2 := (w_M_readAll cI cB cS cT a_mo a_mo_h a_mo_v a_mo_across a_mo_ownAcross a_mo_ownDown a_mo_base a_mo_coefficients a_mo_lengths a_mo_codes a_mo_directOf a_mo_otherOf a_mo_data a_mo_prediction a_mo_down a_mo_before0 a_mo_draftCounts a_mo_draft a_mo_words a_mo_out a_mo_times a_mo_runBits a_mo_toCome a_mo_timesKept mo_thrown mo_width mo_height mo_many mo_unitsAcross mo_unitsDown mo_drafts mo_mask mo_first mo_last mo_before mo_bits mo_interval mo_size mo_outs mo_part mo_parted mo_failed mo_counting mo_run_j171 mo_runMany mo_comes z10.1 mo_taken_j171 z10.2.1 z10.2.2 mo_h mo_v mo_across mo_ownAcross mo_ownDown mo_base mo_coefficients_j171 mo_lengths mo_codes mo_directOf mo_otherOf mo_data mo_prediction_j171)) [0, 12] [some 0, none, none, none, none, none, none, none, none, none, none, none, some 1, none] hP hD hS hA rfl rfl rfl rfl (va_runV (As := [.int (0 : Int32)]) (rest := []) ⟨hx, hb, hml, hown, hts⟩ (c_M_finish l dC dI cI cB cS cT N a_mo a_mo_data a_mo_h a_mo_v a_mo_across a_mo_down a_mo_ownAcross a_mo_ownDown a_mo_base a_mo_coefficients a_mo_before0 a_mo_draftCounts a_mo_draft a_mo_words a_mo_lengths a_mo_codes a_mo_directOf a_mo_otherOf a_mo_out a_mo_times a_mo_prediction a_mo_runBits a_mo_toCome a_mo_timesKept mo_thrown mo_width mo_height mo_many mo_unitsAcross mo_unitsDown mo_drafts mo_mask mo_first mo_last mo_before mo_bits mo_interval mo_size mo_outs mo_part mo_parted mo_failed mo_counting mo_run_j171 mo_runMany mo_comes mo_at_j171 mo_taken_j171 mo_left_j171 mo_fault_j171 mo_data (0 : Int32) H.size z10 hz10) ⟨(callB_of 1 hts (gi tw_1148 rfl) rfl rfl rfl (hts _ (List.mem_cons_of_mem _ tw_16)) (hts _ (List.mem_cons_of_mem _ tw_1145)) (by decide +kernel) ⟨Nat.le_of_ble_eq_true rfl, Nat.le_of_ble_eq_true rfl⟩), hts _ (List.mem_cons_of_mem _ tw_1147), hts _ (List.mem_cons_of_mem _ ts_m1148)⟩ ⟨g_blind, va_recv hK hP (ci := 11) (q0 := 0) rfl rfl, g_at hKN (g_pm hP [0, 12] rfl) (hD.sub [0, 12] (by decide) rfl)⟩ rfl rfl hl.1 rfl (lv_room (Nat.le_of_ble_eq_true rfl)) d_m1144_180 ⟨Nat.zero_le _, Nat.zero_le _⟩) (fun H locs hP hD hS => ?_)
      refine W.eq (g2 := F0 m 183 ls []) rfl ?_
      obtain rfl := Option.some.inj hf
      subst hQ
      subst hAe
      exact W.vret hx hb hr (fun t ht hW => ⟨⟨(), rfl, trivial, by rw [ht]; exact hP, hD⟩, hS.F ht⟩) hS.2.2 d_m1144_183
  have hgo : ∀ (H : Heap) (locs : List Loc), va_P (dC, dI) vwCl (w_M_readAll cI cB cS cT a_mo a_mo_h a_mo_v a_mo_across a_mo_ownAcross a_mo_ownDown a_mo_base a_mo_coefficients a_mo_lengths a_mo_codes a_mo_directOf a_mo_otherOf a_mo_data a_mo_prediction a_mo_down a_mo_before0 a_mo_draftCounts a_mo_draft a_mo_words a_mo_out a_mo_times a_mo_runBits a_mo_toCome a_mo_timesKept mo_thrown mo_width mo_height mo_many mo_unitsAcross mo_unitsDown mo_drafts mo_mask mo_first mo_last mo_before mo_bits mo_interval mo_size mo_outs mo_part mo_parted mo_failed mo_counting mo_run mo_runMany mo_comes mo_at mo_taken mo_left mo_fault mo_h mo_v mo_across mo_ownAcross mo_ownDown mo_base mo_coefficients mo_lengths mo_codes mo_directOf mo_otherOf mo_data mo_prediction) H → va_S A s.heap H locs → W p l e (headSpec ws_m1144 rm_M_readAll).room s m args below meth c H locs 0 0 Q (F0 m 0 ls []) := by
    intro H locs hP hS
    unfold f_M_readAll at hf
    refine lv_iconst (v := (0 : Int32)) hx hb d_m1144_0 (by decide) ?_
    refine lv_istore_n (lv' := [(1, .int (0 : Int32)), (0, .ref a_mo)]) hx hb d_m1144_1 rfl hl (by decide) rfl (fun ls hl => ?_)
    refine lv_iconst (v := (0 : Int32)) hx hb d_m1144_2 (by decide) ?_
    refine lv_istore_n (lv' := [(2, .int (0 : Int32)), (1, .int (0 : Int32)), (0, .ref a_mo)]) hx hb d_m1144_3 rfl hl (by decide) rfl (fun ls hl => ?_)
    obtain ⟨z9, hz9, hf⟩ := ob_bind hf
    refine L4  z9 ?_ N (0 : Int32) (0 : Int32) mo_run mo_at mo_taken mo_left mo_fault mo_coefficients mo_prediction hz9 H locs ls hP hD hS (lv_sub hl [2, 1, 0] rfl)
    · intro H locs ls hP hD hS hl
      exact J171 z9.1 z9.2.1 z9.2.2.1 z9.2.2.2.1 z9.2.2.2.2.1 z9.2.2.2.2.2.1 z9.2.2.2.2.2.2 hf H locs ls hP hD hS hl
  exact hgo _ _ hP hS
def f_M_read_L7b (mo_coefficients : Nat → Int32) (N : Nat) (rec : (Int32 × (Nat → Int32)) → Option (Nat → Int32)) (v1_7 : Int32) (mo_before0_7 : Nat → Int32) : Option (Nat → Int32) :=
  if (12288 : Int32) ≤ v1_7 then
    some mo_before0_7
  else
    if v1_7 < 0 ∨ 12288 ≤ v1_7.toNatClampNeg then none else
    if v1_7 < 0 ∨ 12288 ≤ v1_7.toNatClampNeg then none else
    rec (v1_7 + (1 : Int32), upd mo_before0_7 v1_7.toNatClampNeg (vp_nar .short (mo_coefficients v1_7.toNatClampNeg)))
def f_M_read_L7 (mo_coefficients : Nat → Int32) (N : Nat) (k : Nat) : (Int32 × (Nat → Int32)) → Option (Nat → Int32) := it (fun rec a => f_M_read_L7b mo_coefficients N rec a.1 a.2) k
def f_M_read_L58b (mo_fault_58 : Int32) (mo_before0_58 : Nat → Int32) (N : Nat) (rec : (Int32 × (Nat → Int32)) → Option (Nat → Int32)) (v1_58 : Int32) (mo_coefficients_58 : Nat → Int32) : Option (Nat → Int32) :=
  if (12288 : Int32) ≤ v1_58 then
    some mo_coefficients_58
  else
    if mo_fault_58 ≤ 0 then
      some mo_coefficients_58
    else
      if v1_58 < 0 ∨ 12288 ≤ v1_58.toNatClampNeg then none else
      if v1_58 < 0 ∨ 12288 ≤ v1_58.toNatClampNeg then none else
      rec (v1_58 + (1 : Int32), upd mo_coefficients_58 v1_58.toNatClampNeg (vp_nar .short (mo_before0_58 v1_58.toNatClampNeg)))
def f_M_read_L58 (mo_fault_58 : Int32) (mo_before0_58 : Nat → Int32) (N : Nat) (k : Nat) : (Int32 × (Nat → Int32)) → Option (Nat → Int32) := it (fun rec a => f_M_read_L58b mo_fault_58 mo_before0_58 N rec a.1 a.2) k
def f_M_read_J90 (N : Nat) (mo_fault_j90 : Int32) (mo_thrown_j90 : Int32) (mo_run_j90 : Int32) (mo_at_j90 : Int32) (mo_taken_j90 : Int32) (mo_left_j90 : Int32) (mo_coefficients_j90 : Nat → Int32) (mo_before0_j90 : Nat → Int32) (mo_prediction_j90 : Nat → Int32) : Option (Int32 × Int32 × Int32 × Int32 × Int32 × Int32 × Int32 × (Nat → Int32) × (Nat → Int32) × (Nat → Int32)) :=
  some (mo_fault_j90, mo_thrown_j90, mo_run_j90, mo_at_j90, mo_taken_j90, mo_left_j90, mo_fault_j90, mo_coefficients_j90, mo_before0_j90, mo_prediction_j90)
def f_M_read (N : Nat) (mo_many : Int32) (mo_unitsAcross : Int32) (mo_unitsDown : Int32) (mo_mask : Int32) (mo_first : Int32) (mo_last : Int32) (mo_before : Int32) (mo_bits : Int32) (mo_interval : Int32) (mo_size : Int32) (mo_taken : Int32) (mo_h : Nat → Int32) (mo_v : Nat → Int32) (mo_across : Nat → Int32) (mo_ownAcross : Nat → Int32) (mo_ownDown : Nat → Int32) (mo_base : Nat → Int32) (mo_coefficients : Nat → Int32) (mo_before0 : Nat → Int32) (mo_lengths : Nat → Int32) (mo_codes : Nat → Int32) (mo_directOf : Nat → Int32) (mo_otherOf : Nat → Int32) (mo_data : Nat → Int32) (mo_prediction : Nat → Int32) : Option (Int32 × Int32 × Int32 × Int32 × Int32 × Int32 × Int32 × (Nat → Int32) × (Nat → Int32) × (Nat → Int32)) :=
  (f_M_read_L7 mo_coefficients N N ((0 : Int32), mo_before0)).bind fun z1 =>
    (f_M_readAll N mo_many mo_unitsAcross mo_unitsDown mo_mask mo_first mo_last mo_before mo_bits mo_interval mo_size (0 : Int32) (0 : Int32) mo_taken (0 : Int32) (0 : Int32) mo_h mo_v mo_across mo_ownAcross mo_ownDown mo_base mo_coefficients mo_lengths mo_codes mo_directOf mo_otherOf mo_data mo_prediction).bind fun z2 =>
  (f_M_read_L58 z2.2.2.2.2.1 z1 N N ((0 : Int32), z2.2.2.2.2.2.1)).bind fun z3 =>
    f_M_read_J90 N z2.2.2.2.2.1 (0 : Int32) z2.1 z2.2.1 z2.2.2.1 z2.2.2.2.1 z3 z1 z2.2.2.2.2.2.2
abbrev w_M_read (cI cB cS cT : ClassId) (a_mo : Nat) (a_mo_h : Nat) (a_mo_v : Nat) (a_mo_across : Nat) (a_mo_ownAcross : Nat) (a_mo_ownDown : Nat) (a_mo_base : Nat) (a_mo_coefficients : Nat) (a_mo_before0 : Nat) (a_mo_lengths : Nat) (a_mo_codes : Nat) (a_mo_directOf : Nat) (a_mo_otherOf : Nat) (a_mo_data : Nat) (a_mo_prediction : Nat) (a_mo_down : Nat) (a_mo_draftCounts : Nat) (a_mo_draft : Nat) (a_mo_words : Nat) (a_mo_out : Nat) (a_mo_times : Nat) (a_mo_runBits : Nat) (a_mo_toCome : Nat) (a_mo_timesKept : Nat) (mo_thrown : Int32) (mo_width : Int32) (mo_height : Int32) (mo_many : Int32) (mo_unitsAcross : Int32) (mo_unitsDown : Int32) (mo_drafts : Int32) (mo_mask : Int32) (mo_first : Int32) (mo_last : Int32) (mo_before : Int32) (mo_bits : Int32) (mo_interval : Int32) (mo_size : Int32) (mo_outs : Int32) (mo_part : Int32) (mo_parted : Int32) (mo_failed : Int32) (mo_counting : Int32) (mo_run : Int32) (mo_runMany : Int32) (mo_comes : Int32) (mo_at : Int32) (mo_taken : Int32) (mo_left : Int32) (mo_fault : Int32) (mo_h : Nat → Int32) (mo_v : Nat → Int32) (mo_across : Nat → Int32) (mo_ownAcross : Nat → Int32) (mo_ownDown : Nat → Int32) (mo_base : Nat → Int32) (mo_coefficients : Nat → Int32) (mo_before0 : Nat → Int32) (mo_lengths : Nat → Int32) (mo_codes : Nat → Int32) (mo_directOf : Nat → Int32) (mo_otherOf : Nat → Int32) (mo_data : Nat → Int32) (mo_prediction : Nat → Int32) : va_W := [(a_mo, .inr (11, [.int mo_thrown, .int mo_width, .int mo_height, .int mo_many, .ref a_mo_h, .ref a_mo_v, .ref a_mo_across, .ref a_mo_down, .ref a_mo_ownAcross, .ref a_mo_ownDown, .ref a_mo_base, .int mo_unitsAcross, .int mo_unitsDown, .ref a_mo_coefficients, .ref a_mo_before0, .ref a_mo_draftCounts, .ref a_mo_draft, .int mo_drafts, .ref a_mo_words, .ref a_mo_lengths, .ref a_mo_codes, .ref a_mo_directOf, .ref a_mo_otherOf, .int mo_mask, .int mo_first, .int mo_last, .int mo_before, .int mo_bits, .int mo_interval, .ref a_mo_data, .int mo_size, .ref a_mo_out, .int mo_outs, .int mo_part, .int mo_parted, .int mo_failed, .int mo_counting, .ref a_mo_times, .ref a_mo_prediction, .int mo_run, .ref a_mo_runBits, .int mo_runMany, .ref a_mo_toCome, .int mo_comes, .int mo_at, .int mo_taken, .int mo_left, .int mo_fault, .ref a_mo_timesKept])), (a_mo_h, .inl (cI, 4, .inl mo_h)), (a_mo_v, .inl (cI, 4, .inl mo_v)), (a_mo_across, .inl (cI, 4, .inl mo_across)), (a_mo_ownAcross, .inl (cI, 4, .inl mo_ownAcross)), (a_mo_ownDown, .inl (cI, 4, .inl mo_ownDown)), (a_mo_base, .inl (cI, 4, .inl mo_base)), (a_mo_coefficients, .inl (cS, 12288, .inl mo_coefficients)), (a_mo_before0, .inl (cS, 12288, .inl mo_before0)), (a_mo_lengths, .inl (cI, 2048, .inl mo_lengths)), (a_mo_codes, .inl (cI, 2048, .inl mo_codes)), (a_mo_directOf, .inl (cI, 4, .inl mo_directOf)), (a_mo_otherOf, .inl (cI, 4, .inl mo_otherOf)), (a_mo_data, .inl (cB, 16384, .inl mo_data)), (a_mo_prediction, .inl (cI, 4, .inl mo_prediction))]
def rm_M_read : Room := { frames := 7, cells := 0, slots := 0, locals := 167 }
set_option maxHeartbeats 1000000 in
set_option maxRecDepth 100000 in
theorem c_M_read (l : Launch) (dC : Nat → ClassId) (dI : Nat → Nat → Nat) (cI cB cS cT : ClassId) (N : Nat) (a_mo : Nat) (a_mo_h : Nat) (a_mo_v : Nat) (a_mo_across : Nat) (a_mo_ownAcross : Nat) (a_mo_ownDown : Nat) (a_mo_base : Nat) (a_mo_coefficients : Nat) (a_mo_before0 : Nat) (a_mo_lengths : Nat) (a_mo_codes : Nat) (a_mo_directOf : Nat) (a_mo_otherOf : Nat) (a_mo_data : Nat) (a_mo_prediction : Nat) (a_mo_down : Nat) (a_mo_draftCounts : Nat) (a_mo_draft : Nat) (a_mo_words : Nat) (a_mo_out : Nat) (a_mo_times : Nat) (a_mo_runBits : Nat) (a_mo_toCome : Nat) (a_mo_timesKept : Nat) (mo_thrown : Int32) (mo_width : Int32) (mo_height : Int32) (mo_many : Int32) (mo_unitsAcross : Int32) (mo_unitsDown : Int32) (mo_drafts : Int32) (mo_mask : Int32) (mo_first : Int32) (mo_last : Int32) (mo_before : Int32) (mo_bits : Int32) (mo_interval : Int32) (mo_size : Int32) (mo_outs : Int32) (mo_part : Int32) (mo_parted : Int32) (mo_failed : Int32) (mo_counting : Int32) (mo_run : Int32) (mo_runMany : Int32) (mo_comes : Int32) (mo_at : Int32) (mo_taken : Int32) (mo_left : Int32) (mo_fault : Int32) (mo_h : Nat → Int32) (mo_v : Nat → Int32) (mo_across : Nat → Int32) (mo_ownAcross : Nat → Int32) (mo_ownDown : Nat → Int32) (mo_base : Nat → Int32) (mo_coefficients : Nat → Int32) (mo_before0 : Nat → Int32) (mo_lengths : Nat → Int32) (mo_codes : Nat → Int32) (mo_directOf : Nat → Int32) (mo_otherOf : Nat → Int32) (mo_data : Nat → Int32) (mo_prediction : Nat → Int32) (sz : Nat) (z : Int32 × Int32 × Int32 × Int32 × Int32 × Int32 × Int32 × (Nat → Int32) × (Nat → Int32) × (Nat → Int32)) (hf : f_M_read N mo_many mo_unitsAcross mo_unitsDown mo_mask mo_first mo_last mo_before mo_bits mo_interval mo_size mo_taken mo_h mo_v mo_across mo_ownAcross mo_ownDown mo_base mo_coefficients mo_before0 mo_lengths mo_codes mo_directOf mo_otherOf mo_data mo_prediction = some z) : Met l y_m1140 ws_m1140 rm_M_read (gPre (dC, dI) [.ref a_mo] (gT cI cB cS cT) (w_M_read cI cB cS cT a_mo a_mo_h a_mo_v a_mo_across a_mo_ownAcross a_mo_ownDown a_mo_base a_mo_coefficients a_mo_before0 a_mo_lengths a_mo_codes a_mo_directOf a_mo_otherOf a_mo_data a_mo_prediction a_mo_down a_mo_draftCounts a_mo_draft a_mo_words a_mo_out a_mo_times a_mo_runBits a_mo_toCome a_mo_timesKept mo_thrown mo_width mo_height mo_many mo_unitsAcross mo_unitsDown mo_drafts mo_mask mo_first mo_last mo_before mo_bits mo_interval mo_size mo_outs mo_part mo_parted mo_failed mo_counting mo_run mo_runMany mo_comes mo_at mo_taken mo_left mo_fault mo_h mo_v mo_across mo_ownAcross mo_ownDown mo_base mo_coefficients mo_before0 mo_lengths mo_codes mo_directOf mo_otherOf mo_data mo_prediction) sz) (gQi (dC, dI) (gT cI cB cS cT) z.1 (w_M_read cI cB cS cT a_mo a_mo_h a_mo_v a_mo_across a_mo_ownAcross a_mo_ownDown a_mo_base a_mo_coefficients a_mo_before0 a_mo_lengths a_mo_codes a_mo_directOf a_mo_otherOf a_mo_data a_mo_prediction a_mo_down a_mo_draftCounts a_mo_draft a_mo_words a_mo_out a_mo_times a_mo_runBits a_mo_toCome a_mo_timesKept mo_thrown mo_width mo_height mo_many mo_unitsAcross mo_unitsDown mo_drafts mo_mask mo_first mo_last mo_before mo_bits mo_interval mo_size mo_outs mo_part mo_parted mo_failed mo_counting mo_run mo_runMany mo_comes mo_at mo_taken mo_left mo_fault mo_h mo_v mo_across mo_ownAcross mo_ownDown mo_base mo_coefficients mo_before0 mo_lengths mo_codes mo_directOf mo_otherOf mo_data mo_prediction) (w_M_read cI cB cS cT a_mo a_mo_h a_mo_v a_mo_across a_mo_ownAcross a_mo_ownDown a_mo_base a_mo_coefficients a_mo_before0 a_mo_lengths a_mo_codes a_mo_directOf a_mo_otherOf a_mo_data a_mo_prediction a_mo_down a_mo_draftCounts a_mo_draft a_mo_words a_mo_out a_mo_times a_mo_runBits a_mo_toCome a_mo_timesKept z.2.1 mo_width mo_height mo_many mo_unitsAcross mo_unitsDown mo_drafts mo_mask mo_first mo_last mo_before mo_bits mo_interval mo_size mo_outs mo_part mo_parted mo_failed mo_counting z.2.2.1 mo_runMany mo_comes z.2.2.2.1 z.2.2.2.2.1 z.2.2.2.2.2.1 z.2.2.2.2.2.2.1 mo_h mo_v mo_across mo_ownAcross mo_ownDown mo_base z.2.2.2.2.2.2.2.1 z.2.2.2.2.2.2.2.2.1 mo_lengths mo_codes mo_directOf mo_otherOf mo_data z.2.2.2.2.2.2.2.2.2) sz) 0 0 (va_A (w_M_read cI cB cS cT a_mo a_mo_h a_mo_v a_mo_across a_mo_ownAcross a_mo_ownDown a_mo_base a_mo_coefficients a_mo_before0 a_mo_lengths a_mo_codes a_mo_directOf a_mo_otherOf a_mo_data a_mo_prediction a_mo_down a_mo_draftCounts a_mo_draft a_mo_words a_mo_out a_mo_times a_mo_runBits a_mo_toCome a_mo_timesKept mo_thrown mo_width mo_height mo_many mo_unitsAcross mo_unitsDown mo_drafts mo_mask mo_first mo_last mo_before mo_bits mo_interval mo_size mo_outs mo_part mo_parted mo_failed mo_counting mo_run mo_runMany mo_comes mo_at mo_taken mo_left mo_fault mo_h mo_v mo_across mo_ownAcross mo_ownDown mo_base mo_coefficients mo_before0 mo_lengths mo_codes mo_directOf mo_otherOf mo_data mo_prediction) sz) := by
  refine Met.ofW (cc := prog_14_method_60_code) (maxL := 2) (ret := (some .int)) (by decide) rfl ?_
  intro p e s m args below meth c s₁ B hml hv
  obtain ⟨hargs, hsz, hP, hKN, hD0⟩ := hv
  have hK := hKN.1
  have hx := B.exec
  have hb := B.bytes
  have hr := B.returns
  have hts := atoms_spec (ws := ws_m1140) B.pre
  have hown : s.vm.findClass "ScanCoderModel" = some m.cls := findClass_of_methodNamed B.named
  have hlocks := B.notSynchronized
  have k0 := hts _ (List.mem_cons_of_mem _ tw_834)
  have k1 := hts _ (List.mem_cons_of_mem _ tw_848)
  have k2 := hts _ (List.mem_cons_of_mem _ tw_847)
  have k3 := hts _ (List.mem_cons_of_mem _ tw_881)
  have k4 := hts _ (List.mem_cons_of_mem _ tw_878)
  have k5 := hts _ (List.mem_cons_of_mem _ tw_880)
  have k6 := hts _ (List.mem_cons_of_mem _ tw_873)
  have n0 : ∀ w ∈ u_ws "ScanCoderModel" T_11 49, w ∈ ws_m1140 := fun w h => List.mem_cons_of_mem _ (in_11 w h)
  subst hsz
  have hD := hD0.self (sz := s.heap.size)
  obtain ⟨A, hAe⟩ : ∃ A : Nat → Prop, va_A (w_M_read cI cB cS cT a_mo a_mo_h a_mo_v a_mo_across a_mo_ownAcross a_mo_ownDown a_mo_base a_mo_coefficients a_mo_before0 a_mo_lengths a_mo_codes a_mo_directOf a_mo_otherOf a_mo_data a_mo_prediction a_mo_down a_mo_draftCounts a_mo_draft a_mo_words a_mo_out a_mo_times a_mo_runBits a_mo_toCome a_mo_timesKept mo_thrown mo_width mo_height mo_many mo_unitsAcross mo_unitsDown mo_drafts mo_mask mo_first mo_last mo_before mo_bits mo_interval mo_size mo_outs mo_part mo_parted mo_failed mo_counting mo_run mo_runMany mo_comes mo_at mo_taken mo_left mo_fault mo_h mo_v mo_across mo_ownAcross mo_ownDown mo_base mo_coefficients mo_before0 mo_lengths mo_codes mo_directOf mo_otherOf mo_data mo_prediction) s.heap.size = A := ⟨_, rfl⟩
  rw [hAe] at hD
  have hA : ∀ q : Nat, s.heap.size ≤ q → A q := fun q h => by rw [← hAe]; exact Or.inr h
  have hS : va_S A s.heap s.heap [] := va_S.rf
  have hl := lv_entry ([.ref a_mo]) (n := 2) (Nat.le_of_ble_eq_true rfl)
  have hfr : entryFrame m args 2 = F0 m 0 ((lg_sl ([.ref a_mo]) ++ List.replicate (2 - (lg_sl ([.ref a_mo])).length) Slot.unset).toArray) [] := by rw [hargs]; exact lg_entry_eq _ _ _
  rw [hfr]
  generalize (lg_sl ([.ref a_mo]) ++ List.replicate (2 - (lg_sl ([.ref a_mo])).length) Slot.unset).toArray = ls at hl ⊢
  have hl : lv_has ls 2 [(0, .ref a_mo)] := hl
  refine gen_Q (fun Q hQ => ?_)
  clear hfr
  have L7 : ∀ (mo_thrown_7 : Int32) (z : Nat → Int32), (GW (dC, dI) A p l e (headSpec ws_m1140 rm_M_read).room s m args below meth c 0 0 Q 2 32 (w_M_read cI cB cS cT a_mo a_mo_h a_mo_v a_mo_across a_mo_ownAcross a_mo_ownDown a_mo_base a_mo_coefficients a_mo_before0 a_mo_lengths a_mo_codes a_mo_directOf a_mo_otherOf a_mo_data a_mo_prediction a_mo_down a_mo_draftCounts a_mo_draft a_mo_words a_mo_out a_mo_times a_mo_runBits a_mo_toCome a_mo_timesKept mo_thrown_7 mo_width mo_height mo_many mo_unitsAcross mo_unitsDown mo_drafts mo_mask mo_first mo_last mo_before mo_bits mo_interval mo_size mo_outs mo_part mo_parted mo_failed mo_counting mo_run mo_runMany mo_comes mo_at mo_taken mo_left mo_fault mo_h mo_v mo_across mo_ownAcross mo_ownDown mo_base mo_coefficients z mo_lengths mo_codes mo_directOf mo_otherOf mo_data mo_prediction) [(0, .ref a_mo)] []) → ∀ (k : Nat) (v1_7 : Int32) (mo_before0_7 : Nat → Int32), f_M_read_L7 mo_coefficients N k (v1_7, mo_before0_7) = some z → GW (dC, dI) A p l e (headSpec ws_m1140 rm_M_read).room s m args below meth c 0 0 Q 2 7 (w_M_read cI cB cS cT a_mo a_mo_h a_mo_v a_mo_across a_mo_ownAcross a_mo_ownDown a_mo_base a_mo_coefficients a_mo_before0 a_mo_lengths a_mo_codes a_mo_directOf a_mo_otherOf a_mo_data a_mo_prediction a_mo_down a_mo_draftCounts a_mo_draft a_mo_words a_mo_out a_mo_times a_mo_runBits a_mo_toCome a_mo_timesKept mo_thrown_7 mo_width mo_height mo_many mo_unitsAcross mo_unitsDown mo_drafts mo_mask mo_first mo_last mo_before mo_bits mo_interval mo_size mo_outs mo_part mo_parted mo_failed mo_counting mo_run mo_runMany mo_comes mo_at mo_taken mo_left mo_fault mo_h mo_v mo_across mo_ownAcross mo_ownDown mo_base mo_coefficients mo_before0_7 mo_lengths mo_codes mo_directOf mo_otherOf mo_data mo_prediction) [(0, .ref a_mo), (1, .int v1_7)] [] := by
    intro mo_thrown_7 z hE0 k
    induction k with
    | zero =>
      intro v1_7 mo_before0_7 hf
      exact (it_zero hf).elim
    | succ k ih =>
      intro v1_7 mo_before0_7 hf H locs ls hP hD hS hl
      have hf : f_M_read_L7b mo_coefficients N (f_M_read_L7 mo_coefficients N k) v1_7 mo_before0_7 = some z := hf
      unfold f_M_read_L7b at hf
      refine lv_iload_n hx hb d_m1140_7 rfl (lv_at hl 1 rfl) ?_
      refine lv_sipush (v := (12288 : Int32)) hx hb d_m1140_8 (by decide) ?_
      refine lv_icmp_ge (tgt := 32) hx hb d_m1140_11 (by decide) (fun hc => ?_) (fun hc => ?_)
      · replace hf := (if_pos hc).symm.trans hf
        obtain rfl := Option.some.inj hf
        exact hE0  H locs ls hP hD hS (lv_sub hl [0] rfl)
      · replace hf := (if_neg hc).symm.trans hf
        refine lv_aload_n hx hb d_m1140_14 rfl (lv_at hl 0 rfl) ?_
        refine va_get (D := (dC, dI)) (ci := 11) (v := .ref a_mo_before0) (C := "ScanCoderModel") (T := T_11) (N := 49) hx hb hts n0 hown hK hP 0 rfl rfl 14 (by decide) k1 (fun _ h9 => h9) rfl d_m1140_15 ?_
        refine lv_iload_n hx hb d_m1140_18 rfl (lv_at hl 1 rfl) ?_
        refine lv_aload_n hx hb d_m1140_19 rfl (lv_at hl 0 rfl) ?_
        refine va_get (D := (dC, dI)) (ci := 11) (v := .ref a_mo_coefficients) (C := "ScanCoderModel") (T := T_11) (N := 49) hx hb hts n0 hown hK hP 0 rfl rfl 13 (by decide) k2 (fun _ h9 => h9) rfl d_m1140_20 ?_
        refine lv_iload_n hx hb d_m1140_23 rfl (lv_at hl 1 rfl) ?_
        obtain ⟨hi, hf⟩ := ob_if hf
        refine va_sald hx hb hK hP 7 2 rfl rfl hi d_m1140_24 ?_
        obtain ⟨hi, hf⟩ := ob_if hf
        refine va_sast hx hb hK hP hD hS 8 2 rfl rfl hi d_m1140_25 (fun H locs hP hD hS => ?_)
        have hP : va_P (dC, dI) vwCl (w_M_read cI cB cS cT a_mo a_mo_h a_mo_v a_mo_across a_mo_ownAcross a_mo_ownDown a_mo_base a_mo_coefficients a_mo_before0 a_mo_lengths a_mo_codes a_mo_directOf a_mo_otherOf a_mo_data a_mo_prediction a_mo_down a_mo_draftCounts a_mo_draft a_mo_words a_mo_out a_mo_times a_mo_runBits a_mo_toCome a_mo_timesKept mo_thrown_7 mo_width mo_height mo_many mo_unitsAcross mo_unitsDown mo_drafts mo_mask mo_first mo_last mo_before mo_bits mo_interval mo_size mo_outs mo_part mo_parted mo_failed mo_counting mo_run mo_runMany mo_comes mo_at mo_taken mo_left mo_fault mo_h mo_v mo_across mo_ownAcross mo_ownDown mo_base mo_coefficients (upd mo_before0_7 v1_7.toNatClampNeg (vp_nar .short (mo_coefficients v1_7.toNatClampNeg))) mo_lengths mo_codes mo_directOf mo_otherOf mo_data mo_prediction) H := hP
        have hD : va_D A (w_M_read cI cB cS cT a_mo a_mo_h a_mo_v a_mo_across a_mo_ownAcross a_mo_ownDown a_mo_base a_mo_coefficients a_mo_before0 a_mo_lengths a_mo_codes a_mo_directOf a_mo_otherOf a_mo_data a_mo_prediction a_mo_down a_mo_draftCounts a_mo_draft a_mo_words a_mo_out a_mo_times a_mo_runBits a_mo_toCome a_mo_timesKept mo_thrown_7 mo_width mo_height mo_many mo_unitsAcross mo_unitsDown mo_drafts mo_mask mo_first mo_last mo_before mo_bits mo_interval mo_size mo_outs mo_part mo_parted mo_failed mo_counting mo_run mo_runMany mo_comes mo_at mo_taken mo_left mo_fault mo_h mo_v mo_across mo_ownAcross mo_ownDown mo_base mo_coefficients (upd mo_before0_7 v1_7.toNatClampNeg (vp_nar .short (mo_coefficients v1_7.toNatClampNeg))) mo_lengths mo_codes mo_directOf mo_otherOf mo_data mo_prediction) := hD
        refine lv_iinc (v := v1_7 + (1 : Int32)) (lv' := [(1, .int (v1_7 + (1 : Int32))), (0, .ref a_mo)]) hx hb d_m1140_26 hl (k := 1) rfl rfl (by decide) rfl (fun ls hl => ?_)
        refine lv_goto (tgt := 7) hx hb d_m1140_29 (by decide) ?_
        exact ih (v1_7 + (1 : Int32)) (upd mo_before0_7 v1_7.toNatClampNeg (vp_nar .short (mo_coefficients v1_7.toNatClampNeg))) hf H locs ls hP hD hS (lv_sub hl [1, 0] rfl)
  have L58 : ∀ (mo_thrown_58 : Int32) (mo_run_58 : Int32) (mo_at_58 : Int32) (mo_taken_58 : Int32) (mo_left_58 : Int32) (mo_fault_58 : Int32) (mo_before0_58 : Nat → Int32) (mo_prediction_58 : Nat → Int32) (z : Nat → Int32), (GW (dC, dI) A p l e (headSpec ws_m1140 rm_M_read).room s m args below meth c 0 0 Q 2 90 (w_M_read cI cB cS cT a_mo a_mo_h a_mo_v a_mo_across a_mo_ownAcross a_mo_ownDown a_mo_base a_mo_coefficients a_mo_before0 a_mo_lengths a_mo_codes a_mo_directOf a_mo_otherOf a_mo_data a_mo_prediction a_mo_down a_mo_draftCounts a_mo_draft a_mo_words a_mo_out a_mo_times a_mo_runBits a_mo_toCome a_mo_timesKept mo_thrown_58 mo_width mo_height mo_many mo_unitsAcross mo_unitsDown mo_drafts mo_mask mo_first mo_last mo_before mo_bits mo_interval mo_size mo_outs mo_part mo_parted mo_failed mo_counting mo_run_58 mo_runMany mo_comes mo_at_58 mo_taken_58 mo_left_58 mo_fault_58 mo_h mo_v mo_across mo_ownAcross mo_ownDown mo_base z mo_before0_58 mo_lengths mo_codes mo_directOf mo_otherOf mo_data mo_prediction_58) [(0, .ref a_mo)] []) → ∀ (k : Nat) (v1_58 : Int32) (mo_coefficients_58 : Nat → Int32), f_M_read_L58 mo_fault_58 mo_before0_58 N k (v1_58, mo_coefficients_58) = some z → GW (dC, dI) A p l e (headSpec ws_m1140 rm_M_read).room s m args below meth c 0 0 Q 2 58 (w_M_read cI cB cS cT a_mo a_mo_h a_mo_v a_mo_across a_mo_ownAcross a_mo_ownDown a_mo_base a_mo_coefficients a_mo_before0 a_mo_lengths a_mo_codes a_mo_directOf a_mo_otherOf a_mo_data a_mo_prediction a_mo_down a_mo_draftCounts a_mo_draft a_mo_words a_mo_out a_mo_times a_mo_runBits a_mo_toCome a_mo_timesKept mo_thrown_58 mo_width mo_height mo_many mo_unitsAcross mo_unitsDown mo_drafts mo_mask mo_first mo_last mo_before mo_bits mo_interval mo_size mo_outs mo_part mo_parted mo_failed mo_counting mo_run_58 mo_runMany mo_comes mo_at_58 mo_taken_58 mo_left_58 mo_fault_58 mo_h mo_v mo_across mo_ownAcross mo_ownDown mo_base mo_coefficients_58 mo_before0_58 mo_lengths mo_codes mo_directOf mo_otherOf mo_data mo_prediction_58) [(0, .ref a_mo), (1, .int v1_58)] [] := by
    intro mo_thrown_58 mo_run_58 mo_at_58 mo_taken_58 mo_left_58 mo_fault_58 mo_before0_58 mo_prediction_58 z hE0 k
    induction k with
    | zero =>
      intro v1_58 mo_coefficients_58 hf
      exact (it_zero hf).elim
    | succ k ih =>
      intro v1_58 mo_coefficients_58 hf H locs ls hP hD hS hl
      have hf : f_M_read_L58b mo_fault_58 mo_before0_58 N (f_M_read_L58 mo_fault_58 mo_before0_58 N k) v1_58 mo_coefficients_58 = some z := hf
      unfold f_M_read_L58b at hf
      refine lv_iload_n hx hb d_m1140_58 rfl (lv_at hl 1 rfl) ?_
      refine lv_sipush (v := (12288 : Int32)) hx hb d_m1140_59 (by decide) ?_
      refine lv_icmp_ge (tgt := 90) hx hb d_m1140_62 (by decide) (fun hc => ?_) (fun hc => ?_)
      · replace hf := (if_pos hc).symm.trans hf
        obtain rfl := Option.some.inj hf
        exact hE0  H locs ls hP hD hS (lv_sub hl [0] rfl)
      · replace hf := (if_neg hc).symm.trans hf
        refine lv_aload_n hx hb d_m1140_65 rfl (lv_at hl 0 rfl) ?_
        refine va_get (D := (dC, dI)) (ci := 11) (v := .int mo_fault_58) (C := "ScanCoderModel") (T := T_11) (N := 49) hx hb hts n0 hown hK hP 0 rfl rfl 47 (by decide) k3 (fun _ h9 => h9) rfl d_m1140_66 ?_
        refine lv_if_le (tgt := 90) hx hb d_m1140_69 (by decide) (fun hc => ?_) (fun hc => ?_)
        · replace hf := (if_pos hc).symm.trans hf
          obtain rfl := Option.some.inj hf
          exact hE0  H locs ls hP hD hS (lv_sub hl [0] rfl)
        · replace hf := (if_neg hc).symm.trans hf
          refine lv_aload_n hx hb d_m1140_72 rfl (lv_at hl 0 rfl) ?_
          refine va_get (D := (dC, dI)) (ci := 11) (v := .ref a_mo_coefficients) (C := "ScanCoderModel") (T := T_11) (N := 49) hx hb hts n0 hown hK hP 0 rfl rfl 13 (by decide) k2 (fun _ h9 => h9) rfl d_m1140_73 ?_
          refine lv_iload_n hx hb d_m1140_76 rfl (lv_at hl 1 rfl) ?_
          refine lv_aload_n hx hb d_m1140_77 rfl (lv_at hl 0 rfl) ?_
          refine va_get (D := (dC, dI)) (ci := 11) (v := .ref a_mo_before0) (C := "ScanCoderModel") (T := T_11) (N := 49) hx hb hts n0 hown hK hP 0 rfl rfl 14 (by decide) k1 (fun _ h9 => h9) rfl d_m1140_78 ?_
          refine lv_iload_n hx hb d_m1140_81 rfl (lv_at hl 1 rfl) ?_
          obtain ⟨hi, hf⟩ := ob_if hf
          refine va_sald hx hb hK hP 8 2 rfl rfl hi d_m1140_82 ?_
          obtain ⟨hi, hf⟩ := ob_if hf
          refine va_sast hx hb hK hP hD hS 7 2 rfl rfl hi d_m1140_83 (fun H locs hP hD hS => ?_)
          have hP : va_P (dC, dI) vwCl (w_M_read cI cB cS cT a_mo a_mo_h a_mo_v a_mo_across a_mo_ownAcross a_mo_ownDown a_mo_base a_mo_coefficients a_mo_before0 a_mo_lengths a_mo_codes a_mo_directOf a_mo_otherOf a_mo_data a_mo_prediction a_mo_down a_mo_draftCounts a_mo_draft a_mo_words a_mo_out a_mo_times a_mo_runBits a_mo_toCome a_mo_timesKept mo_thrown_58 mo_width mo_height mo_many mo_unitsAcross mo_unitsDown mo_drafts mo_mask mo_first mo_last mo_before mo_bits mo_interval mo_size mo_outs mo_part mo_parted mo_failed mo_counting mo_run_58 mo_runMany mo_comes mo_at_58 mo_taken_58 mo_left_58 mo_fault_58 mo_h mo_v mo_across mo_ownAcross mo_ownDown mo_base (upd mo_coefficients_58 v1_58.toNatClampNeg (vp_nar .short (mo_before0_58 v1_58.toNatClampNeg))) mo_before0_58 mo_lengths mo_codes mo_directOf mo_otherOf mo_data mo_prediction_58) H := hP
          have hD : va_D A (w_M_read cI cB cS cT a_mo a_mo_h a_mo_v a_mo_across a_mo_ownAcross a_mo_ownDown a_mo_base a_mo_coefficients a_mo_before0 a_mo_lengths a_mo_codes a_mo_directOf a_mo_otherOf a_mo_data a_mo_prediction a_mo_down a_mo_draftCounts a_mo_draft a_mo_words a_mo_out a_mo_times a_mo_runBits a_mo_toCome a_mo_timesKept mo_thrown_58 mo_width mo_height mo_many mo_unitsAcross mo_unitsDown mo_drafts mo_mask mo_first mo_last mo_before mo_bits mo_interval mo_size mo_outs mo_part mo_parted mo_failed mo_counting mo_run_58 mo_runMany mo_comes mo_at_58 mo_taken_58 mo_left_58 mo_fault_58 mo_h mo_v mo_across mo_ownAcross mo_ownDown mo_base (upd mo_coefficients_58 v1_58.toNatClampNeg (vp_nar .short (mo_before0_58 v1_58.toNatClampNeg))) mo_before0_58 mo_lengths mo_codes mo_directOf mo_otherOf mo_data mo_prediction_58) := hD
          refine lv_iinc (v := v1_58 + (1 : Int32)) (lv' := [(1, .int (v1_58 + (1 : Int32))), (0, .ref a_mo)]) hx hb d_m1140_84 hl (k := 1) rfl rfl (by decide) rfl (fun ls hl => ?_)
          refine lv_goto (tgt := 58) hx hb d_m1140_87 (by decide) ?_
          exact ih (v1_58 + (1 : Int32)) (upd mo_coefficients_58 v1_58.toNatClampNeg (vp_nar .short (mo_before0_58 v1_58.toNatClampNeg))) hf H locs ls hP hD hS (lv_sub hl [1, 0] rfl)
  have J90 : ∀ (mo_thrown_j90 : Int32) (mo_run_j90 : Int32) (mo_at_j90 : Int32) (mo_taken_j90 : Int32) (mo_left_j90 : Int32) (mo_fault_j90 : Int32) (mo_coefficients_j90 : Nat → Int32) (mo_before0_j90 : Nat → Int32) (mo_prediction_j90 : Nat → Int32), f_M_read_J90 N mo_fault_j90 mo_thrown_j90 mo_run_j90 mo_at_j90 mo_taken_j90 mo_left_j90 mo_coefficients_j90 mo_before0_j90 mo_prediction_j90 = some z → GW (dC, dI) A p l e (headSpec ws_m1140 rm_M_read).room s m args below meth c 0 0 Q 2 90 (w_M_read cI cB cS cT a_mo a_mo_h a_mo_v a_mo_across a_mo_ownAcross a_mo_ownDown a_mo_base a_mo_coefficients a_mo_before0 a_mo_lengths a_mo_codes a_mo_directOf a_mo_otherOf a_mo_data a_mo_prediction a_mo_down a_mo_draftCounts a_mo_draft a_mo_words a_mo_out a_mo_times a_mo_runBits a_mo_toCome a_mo_timesKept mo_thrown_j90 mo_width mo_height mo_many mo_unitsAcross mo_unitsDown mo_drafts mo_mask mo_first mo_last mo_before mo_bits mo_interval mo_size mo_outs mo_part mo_parted mo_failed mo_counting mo_run_j90 mo_runMany mo_comes mo_at_j90 mo_taken_j90 mo_left_j90 mo_fault_j90 mo_h mo_v mo_across mo_ownAcross mo_ownDown mo_base mo_coefficients_j90 mo_before0_j90 mo_lengths mo_codes mo_directOf mo_otherOf mo_data mo_prediction_j90) [(0, .ref a_mo)] [] := by
    intro mo_thrown_j90 mo_run_j90 mo_at_j90 mo_taken_j90 mo_left_j90 mo_fault_j90 mo_coefficients_j90 mo_before0_j90 mo_prediction_j90 hf H locs ls hP hD hS hl
    unfold f_M_read_J90 at hf
    refine lv_aload_n hx hb d_m1140_90 rfl (lv_at hl 0 rfl) ?_
    refine va_get (D := (dC, dI)) (ci := 11) (v := .int mo_fault_j90) (C := "ScanCoderModel") (T := T_11) (N := 49) hx hb hts n0 hown hK hP 0 rfl rfl 47 (by decide) k3 (fun _ h9 => h9) rfl d_m1140_91 ?_
    obtain rfl := Option.some.inj hf
    subst hQ
    subst hAe
    exact W.iret (v := mo_fault_j90) hx hb hr (fun t ht hW => ⟨⟨mo_fault_j90, (), rfl, rfl, by rw [ht]; exact hP, hD⟩, hS.F ht⟩) hS.2.2 d_m1140_94
  have hgo : ∀ (H : Heap) (locs : List Loc), va_P (dC, dI) vwCl (w_M_read cI cB cS cT a_mo a_mo_h a_mo_v a_mo_across a_mo_ownAcross a_mo_ownDown a_mo_base a_mo_coefficients a_mo_before0 a_mo_lengths a_mo_codes a_mo_directOf a_mo_otherOf a_mo_data a_mo_prediction a_mo_down a_mo_draftCounts a_mo_draft a_mo_words a_mo_out a_mo_times a_mo_runBits a_mo_toCome a_mo_timesKept mo_thrown mo_width mo_height mo_many mo_unitsAcross mo_unitsDown mo_drafts mo_mask mo_first mo_last mo_before mo_bits mo_interval mo_size mo_outs mo_part mo_parted mo_failed mo_counting mo_run mo_runMany mo_comes mo_at mo_taken mo_left mo_fault mo_h mo_v mo_across mo_ownAcross mo_ownDown mo_base mo_coefficients mo_before0 mo_lengths mo_codes mo_directOf mo_otherOf mo_data mo_prediction) H → va_S A s.heap H locs → W p l e (headSpec ws_m1140 rm_M_read).room s m args below meth c H locs 0 0 Q (F0 m 0 ls []) := by
    intro H locs hP hS
    unfold f_M_read at hf
    refine lv_aload_n hx hb d_m1140_0 rfl (lv_at hl 0 rfl) ?_
    refine lv_iconst (v := (0 : Int32)) hx hb d_m1140_1 (by decide) ?_
    refine va_put (D := (dC, dI)) (ci := 11) (v := .int (0 : Int32)) (ty := .int) (C := "ScanCoderModel") (T := T_11) (N := 49) hx hb hts n0 ty_11 tyok_11 nm_11 hown hK hP hD hS 0 rfl rfl 0 (by decide) k0 (fun _ h9 => h9) rfl (by decide +kernel) rfl rfl (Nat.le_of_ble_eq_true rfl) d_m1140_2 (fun H locs hP hD hS => ?_)
    have hP : va_P (dC, dI) vwCl (w_M_read cI cB cS cT a_mo a_mo_h a_mo_v a_mo_across a_mo_ownAcross a_mo_ownDown a_mo_base a_mo_coefficients a_mo_before0 a_mo_lengths a_mo_codes a_mo_directOf a_mo_otherOf a_mo_data a_mo_prediction a_mo_down a_mo_draftCounts a_mo_draft a_mo_words a_mo_out a_mo_times a_mo_runBits a_mo_toCome a_mo_timesKept (0 : Int32) mo_width mo_height mo_many mo_unitsAcross mo_unitsDown mo_drafts mo_mask mo_first mo_last mo_before mo_bits mo_interval mo_size mo_outs mo_part mo_parted mo_failed mo_counting mo_run mo_runMany mo_comes mo_at mo_taken mo_left mo_fault mo_h mo_v mo_across mo_ownAcross mo_ownDown mo_base mo_coefficients mo_before0 mo_lengths mo_codes mo_directOf mo_otherOf mo_data mo_prediction) H := hP
    have hD : va_D A (w_M_read cI cB cS cT a_mo a_mo_h a_mo_v a_mo_across a_mo_ownAcross a_mo_ownDown a_mo_base a_mo_coefficients a_mo_before0 a_mo_lengths a_mo_codes a_mo_directOf a_mo_otherOf a_mo_data a_mo_prediction a_mo_down a_mo_draftCounts a_mo_draft a_mo_words a_mo_out a_mo_times a_mo_runBits a_mo_toCome a_mo_timesKept (0 : Int32) mo_width mo_height mo_many mo_unitsAcross mo_unitsDown mo_drafts mo_mask mo_first mo_last mo_before mo_bits mo_interval mo_size mo_outs mo_part mo_parted mo_failed mo_counting mo_run mo_runMany mo_comes mo_at mo_taken mo_left mo_fault mo_h mo_v mo_across mo_ownAcross mo_ownDown mo_base mo_coefficients mo_before0 mo_lengths mo_codes mo_directOf mo_otherOf mo_data mo_prediction) := hD
    refine lv_iconst (v := (0 : Int32)) hx hb d_m1140_5 (by decide) ?_
    refine lv_istore_n (lv' := [(1, .int (0 : Int32)), (0, .ref a_mo)]) hx hb d_m1140_6 rfl hl (by decide) rfl (fun ls hl => ?_)
    obtain ⟨z1, hz1, hf⟩ := ob_bind hf
    refine L7 (0 : Int32) z1 ?_ N (0 : Int32) mo_before0 hz1 H locs ls hP hD hS (lv_sub hl [1, 0] rfl)
    · intro H locs ls hP hD hS hl
      refine lv_aload_n hx hb d_m1140_32 rfl (lv_at hl 0 rfl) ?_
      refine lv_iconst (v := (0 : Int32)) hx hb d_m1140_33 (by decide) ?_
      refine va_put (D := (dC, dI)) (ci := 11) (v := .int (0 : Int32)) (ty := .int) (C := "ScanCoderModel") (T := T_11) (N := 49) hx hb hts n0 ty_11 tyok_11 nm_11 hown hK hP hD hS 0 rfl rfl 47 (by decide) k3 (fun _ h9 => h9) rfl (by decide +kernel) rfl rfl (Nat.le_of_ble_eq_true rfl) d_m1140_34 (fun H locs hP hD hS => ?_)
      have hP : va_P (dC, dI) vwCl (w_M_read cI cB cS cT a_mo a_mo_h a_mo_v a_mo_across a_mo_ownAcross a_mo_ownDown a_mo_base a_mo_coefficients a_mo_before0 a_mo_lengths a_mo_codes a_mo_directOf a_mo_otherOf a_mo_data a_mo_prediction a_mo_down a_mo_draftCounts a_mo_draft a_mo_words a_mo_out a_mo_times a_mo_runBits a_mo_toCome a_mo_timesKept (0 : Int32) mo_width mo_height mo_many mo_unitsAcross mo_unitsDown mo_drafts mo_mask mo_first mo_last mo_before mo_bits mo_interval mo_size mo_outs mo_part mo_parted mo_failed mo_counting mo_run mo_runMany mo_comes mo_at mo_taken mo_left (0 : Int32) mo_h mo_v mo_across mo_ownAcross mo_ownDown mo_base mo_coefficients z1 mo_lengths mo_codes mo_directOf mo_otherOf mo_data mo_prediction) H := hP
      have hD : va_D A (w_M_read cI cB cS cT a_mo a_mo_h a_mo_v a_mo_across a_mo_ownAcross a_mo_ownDown a_mo_base a_mo_coefficients a_mo_before0 a_mo_lengths a_mo_codes a_mo_directOf a_mo_otherOf a_mo_data a_mo_prediction a_mo_down a_mo_draftCounts a_mo_draft a_mo_words a_mo_out a_mo_times a_mo_runBits a_mo_toCome a_mo_timesKept (0 : Int32) mo_width mo_height mo_many mo_unitsAcross mo_unitsDown mo_drafts mo_mask mo_first mo_last mo_before mo_bits mo_interval mo_size mo_outs mo_part mo_parted mo_failed mo_counting mo_run mo_runMany mo_comes mo_at mo_taken mo_left (0 : Int32) mo_h mo_v mo_across mo_ownAcross mo_ownDown mo_base mo_coefficients z1 mo_lengths mo_codes mo_directOf mo_otherOf mo_data mo_prediction) := hD
      refine lv_aload_n hx hb d_m1140_37 rfl (lv_at hl 0 rfl) ?_
      refine lv_iconst (v := (0 : Int32)) hx hb d_m1140_38 (by decide) ?_
      refine va_put (D := (dC, dI)) (ci := 11) (v := .int (0 : Int32)) (ty := .int) (C := "ScanCoderModel") (T := T_11) (N := 49) hx hb hts n0 ty_11 tyok_11 nm_11 hown hK hP hD hS 0 rfl rfl 44 (by decide) k4 (fun _ h9 => h9) rfl (by decide +kernel) rfl rfl (Nat.le_of_ble_eq_true rfl) d_m1140_39 (fun H locs hP hD hS => ?_)
      have hP : va_P (dC, dI) vwCl (w_M_read cI cB cS cT a_mo a_mo_h a_mo_v a_mo_across a_mo_ownAcross a_mo_ownDown a_mo_base a_mo_coefficients a_mo_before0 a_mo_lengths a_mo_codes a_mo_directOf a_mo_otherOf a_mo_data a_mo_prediction a_mo_down a_mo_draftCounts a_mo_draft a_mo_words a_mo_out a_mo_times a_mo_runBits a_mo_toCome a_mo_timesKept (0 : Int32) mo_width mo_height mo_many mo_unitsAcross mo_unitsDown mo_drafts mo_mask mo_first mo_last mo_before mo_bits mo_interval mo_size mo_outs mo_part mo_parted mo_failed mo_counting mo_run mo_runMany mo_comes (0 : Int32) mo_taken mo_left (0 : Int32) mo_h mo_v mo_across mo_ownAcross mo_ownDown mo_base mo_coefficients z1 mo_lengths mo_codes mo_directOf mo_otherOf mo_data mo_prediction) H := hP
      have hD : va_D A (w_M_read cI cB cS cT a_mo a_mo_h a_mo_v a_mo_across a_mo_ownAcross a_mo_ownDown a_mo_base a_mo_coefficients a_mo_before0 a_mo_lengths a_mo_codes a_mo_directOf a_mo_otherOf a_mo_data a_mo_prediction a_mo_down a_mo_draftCounts a_mo_draft a_mo_words a_mo_out a_mo_times a_mo_runBits a_mo_toCome a_mo_timesKept (0 : Int32) mo_width mo_height mo_many mo_unitsAcross mo_unitsDown mo_drafts mo_mask mo_first mo_last mo_before mo_bits mo_interval mo_size mo_outs mo_part mo_parted mo_failed mo_counting mo_run mo_runMany mo_comes (0 : Int32) mo_taken mo_left (0 : Int32) mo_h mo_v mo_across mo_ownAcross mo_ownDown mo_base mo_coefficients z1 mo_lengths mo_codes mo_directOf mo_otherOf mo_data mo_prediction) := hD
      refine lv_aload_n hx hb d_m1140_42 rfl (lv_at hl 0 rfl) ?_
      refine lv_iconst (v := (0 : Int32)) hx hb d_m1140_43 (by decide) ?_
      refine va_put (D := (dC, dI)) (ci := 11) (v := .int (0 : Int32)) (ty := .int) (C := "ScanCoderModel") (T := T_11) (N := 49) hx hb hts n0 ty_11 tyok_11 nm_11 hown hK hP hD hS 0 rfl rfl 46 (by decide) k5 (fun _ h9 => h9) rfl (by decide +kernel) rfl rfl (Nat.le_of_ble_eq_true rfl) d_m1140_44 (fun H locs hP hD hS => ?_)
      have hP : va_P (dC, dI) vwCl (w_M_read cI cB cS cT a_mo a_mo_h a_mo_v a_mo_across a_mo_ownAcross a_mo_ownDown a_mo_base a_mo_coefficients a_mo_before0 a_mo_lengths a_mo_codes a_mo_directOf a_mo_otherOf a_mo_data a_mo_prediction a_mo_down a_mo_draftCounts a_mo_draft a_mo_words a_mo_out a_mo_times a_mo_runBits a_mo_toCome a_mo_timesKept (0 : Int32) mo_width mo_height mo_many mo_unitsAcross mo_unitsDown mo_drafts mo_mask mo_first mo_last mo_before mo_bits mo_interval mo_size mo_outs mo_part mo_parted mo_failed mo_counting mo_run mo_runMany mo_comes (0 : Int32) mo_taken (0 : Int32) (0 : Int32) mo_h mo_v mo_across mo_ownAcross mo_ownDown mo_base mo_coefficients z1 mo_lengths mo_codes mo_directOf mo_otherOf mo_data mo_prediction) H := hP
      have hD : va_D A (w_M_read cI cB cS cT a_mo a_mo_h a_mo_v a_mo_across a_mo_ownAcross a_mo_ownDown a_mo_base a_mo_coefficients a_mo_before0 a_mo_lengths a_mo_codes a_mo_directOf a_mo_otherOf a_mo_data a_mo_prediction a_mo_down a_mo_draftCounts a_mo_draft a_mo_words a_mo_out a_mo_times a_mo_runBits a_mo_toCome a_mo_timesKept (0 : Int32) mo_width mo_height mo_many mo_unitsAcross mo_unitsDown mo_drafts mo_mask mo_first mo_last mo_before mo_bits mo_interval mo_size mo_outs mo_part mo_parted mo_failed mo_counting mo_run mo_runMany mo_comes (0 : Int32) mo_taken (0 : Int32) (0 : Int32) mo_h mo_v mo_across mo_ownAcross mo_ownDown mo_base mo_coefficients z1 mo_lengths mo_codes mo_directOf mo_otherOf mo_data mo_prediction) := hD
      refine lv_aload_n hx hb d_m1140_47 rfl (lv_at hl 0 rfl) ?_
      refine lv_iconst (v := (0 : Int32)) hx hb d_m1140_48 (by decide) ?_
      refine va_put (D := (dC, dI)) (ci := 11) (v := .int (0 : Int32)) (ty := .int) (C := "ScanCoderModel") (T := T_11) (N := 49) hx hb hts n0 ty_11 tyok_11 nm_11 hown hK hP hD hS 0 rfl rfl 39 (by decide) k6 (fun _ h9 => h9) rfl (by decide +kernel) rfl rfl (Nat.le_of_ble_eq_true rfl) d_m1140_49 (fun H locs hP hD hS => ?_)
      have hP : va_P (dC, dI) vwCl (w_M_read cI cB cS cT a_mo a_mo_h a_mo_v a_mo_across a_mo_ownAcross a_mo_ownDown a_mo_base a_mo_coefficients a_mo_before0 a_mo_lengths a_mo_codes a_mo_directOf a_mo_otherOf a_mo_data a_mo_prediction a_mo_down a_mo_draftCounts a_mo_draft a_mo_words a_mo_out a_mo_times a_mo_runBits a_mo_toCome a_mo_timesKept (0 : Int32) mo_width mo_height mo_many mo_unitsAcross mo_unitsDown mo_drafts mo_mask mo_first mo_last mo_before mo_bits mo_interval mo_size mo_outs mo_part mo_parted mo_failed mo_counting (0 : Int32) mo_runMany mo_comes (0 : Int32) mo_taken (0 : Int32) (0 : Int32) mo_h mo_v mo_across mo_ownAcross mo_ownDown mo_base mo_coefficients z1 mo_lengths mo_codes mo_directOf mo_otherOf mo_data mo_prediction) H := hP
      have hD : va_D A (w_M_read cI cB cS cT a_mo a_mo_h a_mo_v a_mo_across a_mo_ownAcross a_mo_ownDown a_mo_base a_mo_coefficients a_mo_before0 a_mo_lengths a_mo_codes a_mo_directOf a_mo_otherOf a_mo_data a_mo_prediction a_mo_down a_mo_draftCounts a_mo_draft a_mo_words a_mo_out a_mo_times a_mo_runBits a_mo_toCome a_mo_timesKept (0 : Int32) mo_width mo_height mo_many mo_unitsAcross mo_unitsDown mo_drafts mo_mask mo_first mo_last mo_before mo_bits mo_interval mo_size mo_outs mo_part mo_parted mo_failed mo_counting (0 : Int32) mo_runMany mo_comes (0 : Int32) mo_taken (0 : Int32) (0 : Int32) mo_h mo_v mo_across mo_ownAcross mo_ownDown mo_base mo_coefficients z1 mo_lengths mo_codes mo_directOf mo_otherOf mo_data mo_prediction) := hD
      refine lv_aload_n hx hb d_m1140_52 rfl (lv_at hl 0 rfl) ?_
      obtain ⟨z2, hz2, hf⟩ := ob_bind hf
      refine g_callv (wc := (w_M_readAll cI cB cS cT a_mo a_mo_h a_mo_v a_mo_across a_mo_ownAcross a_mo_ownDown a_mo_base a_mo_coefficients a_mo_lengths a_mo_codes a_mo_directOf a_mo_otherOf a_mo_data a_mo_prediction a_mo_down a_mo_before0 a_mo_draftCounts a_mo_draft a_mo_words a_mo_out a_mo_times a_mo_runBits a_mo_toCome a_mo_timesKept (0 : Int32) mo_width mo_height mo_many mo_unitsAcross mo_unitsDown mo_drafts mo_mask mo_first mo_last mo_before mo_bits mo_interval mo_size mo_outs mo_part mo_parted mo_failed mo_counting (0 : Int32) mo_runMany mo_comes (0 : Int32) mo_taken (0 : Int32) (0 : Int32) mo_h mo_v mo_across mo_ownAcross mo_ownDown mo_base mo_coefficients mo_lengths mo_codes mo_directOf mo_otherOf mo_data mo_prediction)) (w1 := (w_M_readAll cI cB cS cT a_mo a_mo_h a_mo_v a_mo_across a_mo_ownAcross a_mo_ownDown a_mo_base a_mo_coefficients a_mo_lengths a_mo_codes a_mo_directOf a_mo_otherOf a_mo_data a_mo_prediction a_mo_down a_mo_before0 a_mo_draftCounts a_mo_draft a_mo_words a_mo_out a_mo_times a_mo_runBits a_mo_toCome a_mo_timesKept (0 : Int32) mo_width mo_height mo_many mo_unitsAcross mo_unitsDown mo_drafts mo_mask mo_first mo_last mo_before mo_bits mo_interval mo_size mo_outs mo_part mo_parted mo_failed mo_counting z2.1 mo_runMany mo_comes z2.2.1 z2.2.2.1 z2.2.2.2.1 z2.2.2.2.2.1 mo_h mo_v mo_across mo_ownAcross mo_ownDown mo_base z2.2.2.2.2.2.1 mo_lengths mo_codes mo_directOf mo_otherOf mo_data z2.2.2.2.2.2.2)) (w2 := (w_M_read cI cB cS cT a_mo a_mo_h a_mo_v a_mo_across a_mo_ownAcross a_mo_ownDown a_mo_base a_mo_coefficients a_mo_before0 a_mo_lengths a_mo_codes a_mo_directOf a_mo_otherOf a_mo_data a_mo_prediction a_mo_down a_mo_draftCounts a_mo_draft a_mo_words a_mo_out a_mo_times a_mo_runBits a_mo_toCome a_mo_timesKept (0 : Int32) mo_width mo_height mo_many mo_unitsAcross mo_unitsDown mo_drafts mo_mask mo_first mo_last mo_before mo_bits mo_interval mo_size mo_outs mo_part mo_parted mo_failed mo_counting z2.1 mo_runMany mo_comes z2.2.1 z2.2.2.1 z2.2.2.2.1 z2.2.2.2.2.1 mo_h mo_v mo_across mo_ownAcross mo_ownDown mo_base z2.2.2.2.2.2.1 z1 mo_lengths mo_codes mo_directOf mo_otherOf mo_data z2.2.2.2.2.2.2)) [0, 1, 2, 3, 4, 5, 6, 7, 9, 10, 11, 12, 13, 14] [some 0, some 1, some 2, some 3, some 4, some 5, some 6, some 7, none, some 8, some 9, some 10, some 11, some 12, some 13] hP hD hS hA rfl rfl rfl rfl (va_runV (As := []) (rest := []) ⟨hx, hb, hml, hown, hts⟩ (c_M_readAll l dC dI cI cB cS cT N a_mo a_mo_h a_mo_v a_mo_across a_mo_ownAcross a_mo_ownDown a_mo_base a_mo_coefficients a_mo_lengths a_mo_codes a_mo_directOf a_mo_otherOf a_mo_data a_mo_prediction a_mo_down a_mo_before0 a_mo_draftCounts a_mo_draft a_mo_words a_mo_out a_mo_times a_mo_runBits a_mo_toCome a_mo_timesKept (0 : Int32) mo_width mo_height mo_many mo_unitsAcross mo_unitsDown mo_drafts mo_mask mo_first mo_last mo_before mo_bits mo_interval mo_size mo_outs mo_part mo_parted mo_failed mo_counting (0 : Int32) mo_runMany mo_comes (0 : Int32) mo_taken (0 : Int32) (0 : Int32) mo_h mo_v mo_across mo_ownAcross mo_ownDown mo_base mo_coefficients mo_lengths mo_codes mo_directOf mo_otherOf mo_data mo_prediction H.size z2 hz2) ⟨(callB_of 0 hts (gi tw_1144 rfl) rfl rfl rfl (hts _ (List.mem_cons_of_mem _ tw_16)) (hts _ (List.mem_cons_of_mem _ tw_1141)) (by decide +kernel) ⟨Nat.le_of_ble_eq_true rfl, Nat.le_of_ble_eq_true rfl⟩), hts _ (List.mem_cons_of_mem _ tw_1143), hts _ (List.mem_cons_of_mem _ ts_m1144)⟩ ⟨g_blind, va_recv hK hP (ci := 11) (q0 := 0) rfl rfl, g_at hKN (g_pm hP [0, 1, 2, 3, 4, 5, 6, 7, 9, 10, 11, 12, 13, 14] rfl) (hD.sub [0, 1, 2, 3, 4, 5, 6, 7, 9, 10, 11, 12, 13, 14] (by decide) rfl)⟩ rfl rfl hl.1 rfl (lv_room (Nat.le_of_ble_eq_true rfl)) d_m1140_53 ⟨Nat.zero_le _, Nat.zero_le _⟩) (fun H locs hP hD hS => ?_)
      refine W.eq (g2 := F0 m 56 ls []) rfl ?_
      refine lv_iconst (v := (0 : Int32)) hx hb d_m1140_56 (by decide) ?_
      refine lv_istore_n (lv' := [(1, .int (0 : Int32)), (0, .ref a_mo)]) hx hb d_m1140_57 rfl hl (by decide) rfl (fun ls hl => ?_)
      obtain ⟨z3, hz3, hf⟩ := ob_bind hf
      refine L58 (0 : Int32) z2.1 z2.2.1 z2.2.2.1 z2.2.2.2.1 z2.2.2.2.2.1 z1 z2.2.2.2.2.2.2 z3 ?_ N (0 : Int32) z2.2.2.2.2.2.1 hz3 H locs ls hP hD hS (lv_sub hl [1, 0] rfl)
      · intro H locs ls hP hD hS hl
        exact J90 (0 : Int32) z2.1 z2.2.1 z2.2.2.1 z2.2.2.2.1 z2.2.2.2.2.1 z3 z1 z2.2.2.2.2.2.2 hf H locs ls hP hD hS hl
  exact hgo _ _ hP hS
def f_M_look_L9b (mo_many : Int32) (mo_across : Nat → Int32) (mo_down : Nat → Int32) (N : Nat) (rec : (Int32 × Int32) → Option (Int32)) (v2_9 : Int32) (v3_9 : Int32) : Option (Int32) :=
  if mo_many ≤ v3_9 then
    some v2_9
  else
    if v3_9 < 0 ∨ 4 ≤ v3_9.toNatClampNeg then none else
    if v3_9 < 0 ∨ 4 ≤ v3_9.toNatClampNeg then none else
    rec (v2_9 + ((mo_across v3_9.toNatClampNeg) * (mo_down v3_9.toNatClampNeg)), v3_9 + (1 : Int32))
def f_M_look_L9 (mo_many : Int32) (mo_across : Nat → Int32) (mo_down : Nat → Int32) (N : Nat) (k : Nat) : (Int32 × Int32) → Option (Int32) := it (fun rec a => f_M_look_L9b mo_many mo_across mo_down N rec a.1 a.2) k
def f_M_look_J44_69 (N : Nat) (rec : (Int32 × Int32) → Option (Int32)) (s0_j69 : Int32) (s1_j69 : Int32) (v4_44 : Int32) : Option (Int32) :=
  rec (s0_j69 + s1_j69, v4_44 + (1 : Int32))
def f_M_look_L44b (v2_44 : Int32) (mo_coefficients : Nat → Int32) (N : Nat) (rec : (Int32 × Int32) → Option (Int32)) (v3_44 : Int32) (v4_44 : Int32) : Option (Int32) :=
  if ((64 : Int32) * v2_44) ≤ v4_44 then
    some v3_44
  else
    if v4_44 < 0 ∨ 12288 ≤ v4_44.toNatClampNeg then none else
    if (mo_coefficients v4_44.toNatClampNeg) = 0 then
      f_M_look_J44_69 N rec v3_44 (0 : Int32) v4_44
    else
      f_M_look_J44_69 N rec v3_44 (1 : Int32) v4_44
def f_M_look_L44 (v2_44 : Int32) (mo_coefficients : Nat → Int32) (N : Nat) (k : Nat) : (Int32 × Int32) → Option (Int32) := it (fun rec a => f_M_look_L44b v2_44 mo_coefficients N rec a.1 a.2) k
def f_M_look_L83b (mo_words : Nat → Int32) (N : Nat) (rec : (Int32 × Int32) → Option (Int32)) (v4_83 : Int32) (v5_83 : Int32) : Option (Int32) :=
  if (8 : Int32) ≤ v5_83 then
    some v4_83
  else
    if v5_83 < 0 ∨ 8 ≤ v5_83.toNatClampNeg then none else
    rec (v4_83 + (mo_words v5_83.toNatClampNeg), v5_83 + (1 : Int32))
def f_M_look_L83 (mo_words : Nat → Int32) (N : Nat) (k : Nat) : (Int32 × Int32) → Option (Int32) := it (fun rec a => f_M_look_L83b mo_words N rec a.1 a.2) k
def f_M_look_J195 (N : Nat) (p0 : Int32) (mo_size : Int32) (mo_thrown_j195 : Int32) (v2_j195 : Int32) (mo_unitsAcross : Int32) (mo_unitsDown : Int32) (mo_mask : Int32) (mo_ownAcross : Nat → Int32) (mo_ownDown : Nat → Int32) (mo_interval : Int32) (v3_j195 : Int32) (v4_j195 : Int32) : Option (Int32 × Int32) :=
  if p0 = 0 then
    some (mo_size, mo_thrown_j195)
  else
    if p0 = (1 : Int32) then
      some (v2_j195, mo_thrown_j195)
    else
      if p0 = (2 : Int32) then
        (f_M_units N mo_unitsAcross mo_unitsDown mo_mask mo_ownAcross mo_ownDown).bind fun z4 =>
        some (z4, mo_thrown_j195)
      else
        if p0 = (3 : Int32) then
          some (mo_interval, mo_thrown_j195)
        else
          if p0 = (4 : Int32) then
            some (v3_j195, mo_thrown_j195)
          else
            if p0 = (5 : Int32) then
              some (v4_j195, mo_thrown_j195)
            else
              some ((-1 : Int32), mo_thrown_j195)
def f_M_look (N : Nat) (p0 : Int32) (mo_many : Int32) (mo_unitsAcross : Int32) (mo_unitsDown : Int32) (mo_mask : Int32) (mo_interval : Int32) (mo_size : Int32) (mo_across : Nat → Int32) (mo_down : Nat → Int32) (mo_ownAcross : Nat → Int32) (mo_ownDown : Nat → Int32) (mo_coefficients : Nat → Int32) (mo_words : Nat → Int32) : Option (Int32 × Int32) :=
  (f_M_look_L9 mo_many mo_across mo_down N N ((0 : Int32), (0 : Int32))).bind fun z1 =>
    (f_M_look_L44 z1 mo_coefficients N N ((0 : Int32), (0 : Int32))).bind fun z2 =>
    (f_M_look_L83 mo_words N N ((0 : Int32), (0 : Int32))).bind fun z3 =>
    if p0 < (8 : Int32) then
    f_M_look_J195 N p0 mo_size (0 : Int32) z1 mo_unitsAcross mo_unitsDown mo_mask mo_ownAcross mo_ownDown mo_interval z2 z3
  else
    if ((8 : Int32) + ((4 : Int32) * mo_many)) ≤ p0 then
      f_M_look_J195 N p0 mo_size (0 : Int32) z1 mo_unitsAcross mo_unitsDown mo_mask mo_ownAcross mo_ownDown mo_interval z2 z3
    else
      if (p0 - p0 / (4 : Int32) * (4 : Int32)) = 0 then
        if ((p0 - (8 : Int32)) / (4 : Int32)) < 0 ∨ 4 ≤ ((p0 - (8 : Int32)) / (4 : Int32)).toNatClampNeg then none else
        some (mo_across ((p0 - (8 : Int32)) / (4 : Int32)).toNatClampNeg, (0 : Int32))
      else
        if (p0 - p0 / (4 : Int32) * (4 : Int32)) = (1 : Int32) then
          if ((p0 - (8 : Int32)) / (4 : Int32)) < 0 ∨ 4 ≤ ((p0 - (8 : Int32)) / (4 : Int32)).toNatClampNeg then none else
          some (mo_down ((p0 - (8 : Int32)) / (4 : Int32)).toNatClampNeg, (0 : Int32))
        else
          if (p0 - p0 / (4 : Int32) * (4 : Int32)) = (2 : Int32) then
            if ((p0 - (8 : Int32)) / (4 : Int32)) < 0 ∨ 4 ≤ ((p0 - (8 : Int32)) / (4 : Int32)).toNatClampNeg then none else
            some (mo_ownAcross ((p0 - (8 : Int32)) / (4 : Int32)).toNatClampNeg, (0 : Int32))
          else
            if ((p0 - (8 : Int32)) / (4 : Int32)) < 0 ∨ 4 ≤ ((p0 - (8 : Int32)) / (4 : Int32)).toNatClampNeg then none else
            some (mo_ownDown ((p0 - (8 : Int32)) / (4 : Int32)).toNatClampNeg, (0 : Int32))
abbrev w_M_look (cI cB cS cT : ClassId) (a_mo : Nat) (a_mo_across : Nat) (a_mo_down : Nat) (a_mo_ownAcross : Nat) (a_mo_ownDown : Nat) (a_mo_coefficients : Nat) (a_mo_words : Nat) (a_mo_h : Nat) (a_mo_v : Nat) (a_mo_base : Nat) (a_mo_before0 : Nat) (a_mo_draftCounts : Nat) (a_mo_draft : Nat) (a_mo_lengths : Nat) (a_mo_codes : Nat) (a_mo_directOf : Nat) (a_mo_otherOf : Nat) (a_mo_data : Nat) (a_mo_out : Nat) (a_mo_times : Nat) (a_mo_prediction : Nat) (a_mo_runBits : Nat) (a_mo_toCome : Nat) (a_mo_timesKept : Nat) (mo_thrown : Int32) (mo_width : Int32) (mo_height : Int32) (mo_many : Int32) (mo_unitsAcross : Int32) (mo_unitsDown : Int32) (mo_drafts : Int32) (mo_mask : Int32) (mo_first : Int32) (mo_last : Int32) (mo_before : Int32) (mo_bits : Int32) (mo_interval : Int32) (mo_size : Int32) (mo_outs : Int32) (mo_part : Int32) (mo_parted : Int32) (mo_failed : Int32) (mo_counting : Int32) (mo_run : Int32) (mo_runMany : Int32) (mo_comes : Int32) (mo_at : Int32) (mo_taken : Int32) (mo_left : Int32) (mo_fault : Int32) (mo_across : Nat → Int32) (mo_down : Nat → Int32) (mo_ownAcross : Nat → Int32) (mo_ownDown : Nat → Int32) (mo_coefficients : Nat → Int32) (mo_words : Nat → Int32) : va_W := [(a_mo, .inr (11, [.int mo_thrown, .int mo_width, .int mo_height, .int mo_many, .ref a_mo_h, .ref a_mo_v, .ref a_mo_across, .ref a_mo_down, .ref a_mo_ownAcross, .ref a_mo_ownDown, .ref a_mo_base, .int mo_unitsAcross, .int mo_unitsDown, .ref a_mo_coefficients, .ref a_mo_before0, .ref a_mo_draftCounts, .ref a_mo_draft, .int mo_drafts, .ref a_mo_words, .ref a_mo_lengths, .ref a_mo_codes, .ref a_mo_directOf, .ref a_mo_otherOf, .int mo_mask, .int mo_first, .int mo_last, .int mo_before, .int mo_bits, .int mo_interval, .ref a_mo_data, .int mo_size, .ref a_mo_out, .int mo_outs, .int mo_part, .int mo_parted, .int mo_failed, .int mo_counting, .ref a_mo_times, .ref a_mo_prediction, .int mo_run, .ref a_mo_runBits, .int mo_runMany, .ref a_mo_toCome, .int mo_comes, .int mo_at, .int mo_taken, .int mo_left, .int mo_fault, .ref a_mo_timesKept])), (a_mo_across, .inl (cI, 4, .inl mo_across)), (a_mo_down, .inl (cI, 4, .inl mo_down)), (a_mo_ownAcross, .inl (cI, 4, .inl mo_ownAcross)), (a_mo_ownDown, .inl (cI, 4, .inl mo_ownDown)), (a_mo_coefficients, .inl (cS, 12288, .inl mo_coefficients)), (a_mo_words, .inl (cI, 8, .inl mo_words))]
def rm_M_look : Room := { frames := 2, cells := 0, slots := 0, locals := 43 }
set_option maxHeartbeats 1000000 in
set_option maxRecDepth 100000 in
theorem c_M_look (l : Launch) (dC : Nat → ClassId) (dI : Nat → Nat → Nat) (cI cB cS cT : ClassId) (N : Nat) (a_mo : Nat) (a_mo_across : Nat) (a_mo_down : Nat) (a_mo_ownAcross : Nat) (a_mo_ownDown : Nat) (a_mo_coefficients : Nat) (a_mo_words : Nat) (a_mo_h : Nat) (a_mo_v : Nat) (a_mo_base : Nat) (a_mo_before0 : Nat) (a_mo_draftCounts : Nat) (a_mo_draft : Nat) (a_mo_lengths : Nat) (a_mo_codes : Nat) (a_mo_directOf : Nat) (a_mo_otherOf : Nat) (a_mo_data : Nat) (a_mo_out : Nat) (a_mo_times : Nat) (a_mo_prediction : Nat) (a_mo_runBits : Nat) (a_mo_toCome : Nat) (a_mo_timesKept : Nat) (mo_thrown : Int32) (mo_width : Int32) (mo_height : Int32) (mo_many : Int32) (mo_unitsAcross : Int32) (mo_unitsDown : Int32) (mo_drafts : Int32) (mo_mask : Int32) (mo_first : Int32) (mo_last : Int32) (mo_before : Int32) (mo_bits : Int32) (mo_interval : Int32) (mo_size : Int32) (mo_outs : Int32) (mo_part : Int32) (mo_parted : Int32) (mo_failed : Int32) (mo_counting : Int32) (mo_run : Int32) (mo_runMany : Int32) (mo_comes : Int32) (mo_at : Int32) (mo_taken : Int32) (mo_left : Int32) (mo_fault : Int32) (mo_across : Nat → Int32) (mo_down : Nat → Int32) (mo_ownAcross : Nat → Int32) (mo_ownDown : Nat → Int32) (mo_coefficients : Nat → Int32) (mo_words : Nat → Int32) (p0 : Int32) (sz : Nat) (z : Int32 × Int32) (hf : f_M_look N p0 mo_many mo_unitsAcross mo_unitsDown mo_mask mo_interval mo_size mo_across mo_down mo_ownAcross mo_ownDown mo_coefficients mo_words = some z) : Met l y_m1204 ws_m1204 rm_M_look (gPre (dC, dI) [.ref a_mo, .int p0] (gT cI cB cS cT) (w_M_look cI cB cS cT a_mo a_mo_across a_mo_down a_mo_ownAcross a_mo_ownDown a_mo_coefficients a_mo_words a_mo_h a_mo_v a_mo_base a_mo_before0 a_mo_draftCounts a_mo_draft a_mo_lengths a_mo_codes a_mo_directOf a_mo_otherOf a_mo_data a_mo_out a_mo_times a_mo_prediction a_mo_runBits a_mo_toCome a_mo_timesKept mo_thrown mo_width mo_height mo_many mo_unitsAcross mo_unitsDown mo_drafts mo_mask mo_first mo_last mo_before mo_bits mo_interval mo_size mo_outs mo_part mo_parted mo_failed mo_counting mo_run mo_runMany mo_comes mo_at mo_taken mo_left mo_fault mo_across mo_down mo_ownAcross mo_ownDown mo_coefficients mo_words) sz) (gQi (dC, dI) (gT cI cB cS cT) z.1 (w_M_look cI cB cS cT a_mo a_mo_across a_mo_down a_mo_ownAcross a_mo_ownDown a_mo_coefficients a_mo_words a_mo_h a_mo_v a_mo_base a_mo_before0 a_mo_draftCounts a_mo_draft a_mo_lengths a_mo_codes a_mo_directOf a_mo_otherOf a_mo_data a_mo_out a_mo_times a_mo_prediction a_mo_runBits a_mo_toCome a_mo_timesKept mo_thrown mo_width mo_height mo_many mo_unitsAcross mo_unitsDown mo_drafts mo_mask mo_first mo_last mo_before mo_bits mo_interval mo_size mo_outs mo_part mo_parted mo_failed mo_counting mo_run mo_runMany mo_comes mo_at mo_taken mo_left mo_fault mo_across mo_down mo_ownAcross mo_ownDown mo_coefficients mo_words) (w_M_look cI cB cS cT a_mo a_mo_across a_mo_down a_mo_ownAcross a_mo_ownDown a_mo_coefficients a_mo_words a_mo_h a_mo_v a_mo_base a_mo_before0 a_mo_draftCounts a_mo_draft a_mo_lengths a_mo_codes a_mo_directOf a_mo_otherOf a_mo_data a_mo_out a_mo_times a_mo_prediction a_mo_runBits a_mo_toCome a_mo_timesKept z.2 mo_width mo_height mo_many mo_unitsAcross mo_unitsDown mo_drafts mo_mask mo_first mo_last mo_before mo_bits mo_interval mo_size mo_outs mo_part mo_parted mo_failed mo_counting mo_run mo_runMany mo_comes mo_at mo_taken mo_left mo_fault mo_across mo_down mo_ownAcross mo_ownDown mo_coefficients mo_words) sz) 0 0 (va_A (w_M_look cI cB cS cT a_mo a_mo_across a_mo_down a_mo_ownAcross a_mo_ownDown a_mo_coefficients a_mo_words a_mo_h a_mo_v a_mo_base a_mo_before0 a_mo_draftCounts a_mo_draft a_mo_lengths a_mo_codes a_mo_directOf a_mo_otherOf a_mo_data a_mo_out a_mo_times a_mo_prediction a_mo_runBits a_mo_toCome a_mo_timesKept mo_thrown mo_width mo_height mo_many mo_unitsAcross mo_unitsDown mo_drafts mo_mask mo_first mo_last mo_before mo_bits mo_interval mo_size mo_outs mo_part mo_parted mo_failed mo_counting mo_run mo_runMany mo_comes mo_at mo_taken mo_left mo_fault mo_across mo_down mo_ownAcross mo_ownDown mo_coefficients mo_words) sz) := by
  refine Met.ofW (cc := prog_14_method_61_code) (maxL := 7) (ret := (some .int)) (by decide) rfl ?_
  intro p e s m args below meth c s₁ B hml hv
  obtain ⟨hargs, hsz, hP, hKN, hD0⟩ := hv
  have hK := hKN.1
  have hx := B.exec
  have hb := B.bytes
  have hr := B.returns
  have hts := atoms_spec (ws := ws_m1204) B.pre
  have hown : s.vm.findClass "ScanCoderModel" = some m.cls := findClass_of_methodNamed B.named
  have hlocks := B.notSynchronized
  have k0 := hts _ (List.mem_cons_of_mem _ tw_834)
  have k1 := hts _ (List.mem_cons_of_mem _ tw_837)
  have k2 := hts _ (List.mem_cons_of_mem _ tw_840)
  have k3 := hts _ (List.mem_cons_of_mem _ tw_841)
  have k4 := hts _ (List.mem_cons_of_mem _ tw_847)
  have k5 := hts _ (List.mem_cons_of_mem _ tw_852)
  have k6 := hts _ (List.mem_cons_of_mem _ tw_862)
  have k7 := hts _ (List.mem_cons_of_mem _ tw_864)
  have k8 := hts _ (List.mem_cons_of_mem _ tw_843)
  have k9 := hts _ (List.mem_cons_of_mem _ tw_842)
  have n0 : ∀ w ∈ u_ws "ScanCoderModel" T_11 49, w ∈ ws_m1204 := fun w h => List.mem_cons_of_mem _ (in_11 w h)
  subst hsz
  have hD := hD0.self (sz := s.heap.size)
  obtain ⟨A, hAe⟩ : ∃ A : Nat → Prop, va_A (w_M_look cI cB cS cT a_mo a_mo_across a_mo_down a_mo_ownAcross a_mo_ownDown a_mo_coefficients a_mo_words a_mo_h a_mo_v a_mo_base a_mo_before0 a_mo_draftCounts a_mo_draft a_mo_lengths a_mo_codes a_mo_directOf a_mo_otherOf a_mo_data a_mo_out a_mo_times a_mo_prediction a_mo_runBits a_mo_toCome a_mo_timesKept mo_thrown mo_width mo_height mo_many mo_unitsAcross mo_unitsDown mo_drafts mo_mask mo_first mo_last mo_before mo_bits mo_interval mo_size mo_outs mo_part mo_parted mo_failed mo_counting mo_run mo_runMany mo_comes mo_at mo_taken mo_left mo_fault mo_across mo_down mo_ownAcross mo_ownDown mo_coefficients mo_words) s.heap.size = A := ⟨_, rfl⟩
  rw [hAe] at hD
  have hA : ∀ q : Nat, s.heap.size ≤ q → A q := fun q h => by rw [← hAe]; exact Or.inr h
  have hS : va_S A s.heap s.heap [] := va_S.rf
  have hl := lv_entry ([.ref a_mo, .int p0]) (n := 7) (Nat.le_of_ble_eq_true rfl)
  have hfr : entryFrame m args 7 = F0 m 0 ((lg_sl ([.ref a_mo, .int p0]) ++ List.replicate (7 - (lg_sl ([.ref a_mo, .int p0])).length) Slot.unset).toArray) [] := by rw [hargs]; exact lg_entry_eq _ _ _
  rw [hfr]
  generalize (lg_sl ([.ref a_mo, .int p0]) ++ List.replicate (7 - (lg_sl ([.ref a_mo, .int p0])).length) Slot.unset).toArray = ls at hl ⊢
  have hl : lv_has ls 7 [(0, .ref a_mo), (1, .int p0)] := hl
  refine gen_Q (fun Q hQ => ?_)
  clear hfr
  have L9 : ∀ (mo_thrown_9 : Int32) (z : Int32), (GW (dC, dI) A p l e (headSpec ws_m1204 rm_M_look).room s m args below meth c 0 0 Q 7 39 (w_M_look cI cB cS cT a_mo a_mo_across a_mo_down a_mo_ownAcross a_mo_ownDown a_mo_coefficients a_mo_words a_mo_h a_mo_v a_mo_base a_mo_before0 a_mo_draftCounts a_mo_draft a_mo_lengths a_mo_codes a_mo_directOf a_mo_otherOf a_mo_data a_mo_out a_mo_times a_mo_prediction a_mo_runBits a_mo_toCome a_mo_timesKept mo_thrown_9 mo_width mo_height mo_many mo_unitsAcross mo_unitsDown mo_drafts mo_mask mo_first mo_last mo_before mo_bits mo_interval mo_size mo_outs mo_part mo_parted mo_failed mo_counting mo_run mo_runMany mo_comes mo_at mo_taken mo_left mo_fault mo_across mo_down mo_ownAcross mo_ownDown mo_coefficients mo_words) [(0, .ref a_mo), (1, .int p0), (2, .int z)] []) → ∀ (k : Nat) (v2_9 : Int32) (v3_9 : Int32), f_M_look_L9 mo_many mo_across mo_down N k (v2_9, v3_9) = some z → GW (dC, dI) A p l e (headSpec ws_m1204 rm_M_look).room s m args below meth c 0 0 Q 7 9 (w_M_look cI cB cS cT a_mo a_mo_across a_mo_down a_mo_ownAcross a_mo_ownDown a_mo_coefficients a_mo_words a_mo_h a_mo_v a_mo_base a_mo_before0 a_mo_draftCounts a_mo_draft a_mo_lengths a_mo_codes a_mo_directOf a_mo_otherOf a_mo_data a_mo_out a_mo_times a_mo_prediction a_mo_runBits a_mo_toCome a_mo_timesKept mo_thrown_9 mo_width mo_height mo_many mo_unitsAcross mo_unitsDown mo_drafts mo_mask mo_first mo_last mo_before mo_bits mo_interval mo_size mo_outs mo_part mo_parted mo_failed mo_counting mo_run mo_runMany mo_comes mo_at mo_taken mo_left mo_fault mo_across mo_down mo_ownAcross mo_ownDown mo_coefficients mo_words) [(0, .ref a_mo), (1, .int p0), (2, .int v2_9), (3, .int v3_9)] [] := by
    intro mo_thrown_9 z hE0 k
    induction k with
    | zero =>
      intro v2_9 v3_9 hf
      exact (it_zero hf).elim
    | succ k ih =>
      intro v2_9 v3_9 hf H locs ls hP hD hS hl
      have hf : f_M_look_L9b mo_many mo_across mo_down N (f_M_look_L9 mo_many mo_across mo_down N k) v2_9 v3_9 = some z := hf
      unfold f_M_look_L9b at hf
      refine lv_iload_n hx hb d_m1204_9 rfl (lv_at hl 3 rfl) ?_
      refine lv_aload_n hx hb d_m1204_10 rfl (lv_at hl 0 rfl) ?_
      refine va_get (D := (dC, dI)) (ci := 11) (v := .int mo_many) (C := "ScanCoderModel") (T := T_11) (N := 49) hx hb hts n0 hown hK hP 0 rfl rfl 3 (by decide) k1 (fun _ h9 => h9) rfl d_m1204_11 ?_
      refine lv_icmp_ge (tgt := 39) hx hb d_m1204_14 (by decide) (fun hc => ?_) (fun hc => ?_)
      · replace hf := (if_pos hc).symm.trans hf
        obtain rfl := Option.some.inj hf
        exact hE0  H locs ls hP hD hS (lv_sub hl [0, 1, 2] rfl)
      · replace hf := (if_neg hc).symm.trans hf
        refine lv_iload_n hx hb d_m1204_17 rfl (lv_at hl 2 rfl) ?_
        refine lv_aload_n hx hb d_m1204_18 rfl (lv_at hl 0 rfl) ?_
        refine va_get (D := (dC, dI)) (ci := 11) (v := .ref a_mo_across) (C := "ScanCoderModel") (T := T_11) (N := 49) hx hb hts n0 hown hK hP 0 rfl rfl 6 (by decide) k2 (fun _ h9 => h9) rfl d_m1204_19 ?_
        refine lv_iload_n hx hb d_m1204_22 rfl (lv_at hl 3 rfl) ?_
        obtain ⟨hi, hf⟩ := ob_if hf
        refine va_iald hx hb hK hP 1 0 rfl rfl hi d_m1204_23 ?_
        refine lv_aload_n hx hb d_m1204_24 rfl (lv_at hl 0 rfl) ?_
        refine va_get (D := (dC, dI)) (ci := 11) (v := .ref a_mo_down) (C := "ScanCoderModel") (T := T_11) (N := 49) hx hb hts n0 hown hK hP 0 rfl rfl 7 (by decide) k3 (fun _ h9 => h9) rfl d_m1204_25 ?_
        refine lv_iload_n hx hb d_m1204_28 rfl (lv_at hl 3 rfl) ?_
        obtain ⟨hi, hf⟩ := ob_if hf
        refine va_iald hx hb hK hP 2 0 rfl rfl hi d_m1204_29 ?_
        refine lv_imul hx hb d_m1204_30 ?_
        refine lv_iadd hx hb d_m1204_31 ?_
        refine lv_istore_n (lv' := [(2, .int (v2_9 + ((mo_across v3_9.toNatClampNeg) * (mo_down v3_9.toNatClampNeg)))), (0, .ref a_mo), (1, .int p0), (3, .int v3_9)]) hx hb d_m1204_32 rfl hl (by decide) rfl (fun ls hl => ?_)
        refine lv_iinc (v := v3_9 + (1 : Int32)) (lv' := [(3, .int (v3_9 + (1 : Int32))), (2, .int (v2_9 + ((mo_across v3_9.toNatClampNeg) * (mo_down v3_9.toNatClampNeg)))), (0, .ref a_mo), (1, .int p0)]) hx hb d_m1204_33 hl (k := 3) rfl rfl (by decide) rfl (fun ls hl => ?_)
        refine lv_goto (tgt := 9) hx hb d_m1204_36 (by decide) ?_
        exact ih (v2_9 + ((mo_across v3_9.toNatClampNeg) * (mo_down v3_9.toNatClampNeg))) (v3_9 + (1 : Int32)) hf H locs ls hP hD hS (lv_sub hl [2, 3, 1, 0] rfl)
  have L44 : ∀ (v2_44 : Int32) (mo_thrown_44 : Int32) (z : Int32), (GW (dC, dI) A p l e (headSpec ws_m1204 rm_M_look).room s m args below meth c 0 0 Q 7 77 (w_M_look cI cB cS cT a_mo a_mo_across a_mo_down a_mo_ownAcross a_mo_ownDown a_mo_coefficients a_mo_words a_mo_h a_mo_v a_mo_base a_mo_before0 a_mo_draftCounts a_mo_draft a_mo_lengths a_mo_codes a_mo_directOf a_mo_otherOf a_mo_data a_mo_out a_mo_times a_mo_prediction a_mo_runBits a_mo_toCome a_mo_timesKept mo_thrown_44 mo_width mo_height mo_many mo_unitsAcross mo_unitsDown mo_drafts mo_mask mo_first mo_last mo_before mo_bits mo_interval mo_size mo_outs mo_part mo_parted mo_failed mo_counting mo_run mo_runMany mo_comes mo_at mo_taken mo_left mo_fault mo_across mo_down mo_ownAcross mo_ownDown mo_coefficients mo_words) [(0, .ref a_mo), (1, .int p0), (2, .int v2_44), (3, .int z)] []) → ∀ (k : Nat) (v3_44 : Int32) (v4_44 : Int32), f_M_look_L44 v2_44 mo_coefficients N k (v3_44, v4_44) = some z → GW (dC, dI) A p l e (headSpec ws_m1204 rm_M_look).room s m args below meth c 0 0 Q 7 44 (w_M_look cI cB cS cT a_mo a_mo_across a_mo_down a_mo_ownAcross a_mo_ownDown a_mo_coefficients a_mo_words a_mo_h a_mo_v a_mo_base a_mo_before0 a_mo_draftCounts a_mo_draft a_mo_lengths a_mo_codes a_mo_directOf a_mo_otherOf a_mo_data a_mo_out a_mo_times a_mo_prediction a_mo_runBits a_mo_toCome a_mo_timesKept mo_thrown_44 mo_width mo_height mo_many mo_unitsAcross mo_unitsDown mo_drafts mo_mask mo_first mo_last mo_before mo_bits mo_interval mo_size mo_outs mo_part mo_parted mo_failed mo_counting mo_run mo_runMany mo_comes mo_at mo_taken mo_left mo_fault mo_across mo_down mo_ownAcross mo_ownDown mo_coefficients mo_words) [(0, .ref a_mo), (1, .int p0), (2, .int v2_44), (3, .int v3_44), (4, .int v4_44)] [] := by
    intro v2_44 mo_thrown_44 z hE0 k
    induction k with
    | zero =>
      intro v3_44 v4_44 hf
      exact (it_zero hf).elim
    | succ k ih =>
      intro v3_44 v4_44 hf H locs ls hP hD hS hl
      have J44_69 : ∀ (s0_j69 : Int32) (s1_j69 : Int32), f_M_look_J44_69 N (f_M_look_L44 v2_44 mo_coefficients N k) s0_j69 s1_j69 v4_44 = some z → GW (dC, dI) A p l e (headSpec ws_m1204 rm_M_look).room s m args below meth c 0 0 Q 7 69 (w_M_look cI cB cS cT a_mo a_mo_across a_mo_down a_mo_ownAcross a_mo_ownDown a_mo_coefficients a_mo_words a_mo_h a_mo_v a_mo_base a_mo_before0 a_mo_draftCounts a_mo_draft a_mo_lengths a_mo_codes a_mo_directOf a_mo_otherOf a_mo_data a_mo_out a_mo_times a_mo_prediction a_mo_runBits a_mo_toCome a_mo_timesKept mo_thrown_44 mo_width mo_height mo_many mo_unitsAcross mo_unitsDown mo_drafts mo_mask mo_first mo_last mo_before mo_bits mo_interval mo_size mo_outs mo_part mo_parted mo_failed mo_counting mo_run mo_runMany mo_comes mo_at mo_taken mo_left mo_fault mo_across mo_down mo_ownAcross mo_ownDown mo_coefficients mo_words) [(0, .ref a_mo), (1, .int p0), (2, .int v2_44), (4, .int v4_44)] [.int s1_j69, .int s0_j69] := by
        intro s0_j69 s1_j69 hf H locs ls hP hD hS hl
        unfold f_M_look_J44_69 at hf
        refine lv_iadd hx hb d_m1204_69 ?_
        refine lv_istore_n (lv' := [(3, .int (s0_j69 + s1_j69)), (0, .ref a_mo), (1, .int p0), (2, .int v2_44), (4, .int v4_44)]) hx hb d_m1204_70 rfl hl (by decide) rfl (fun ls hl => ?_)
        refine lv_iinc (v := v4_44 + (1 : Int32)) (lv' := [(4, .int (v4_44 + (1 : Int32))), (3, .int (s0_j69 + s1_j69)), (0, .ref a_mo), (1, .int p0), (2, .int v2_44)]) hx hb d_m1204_71 hl (k := 4) rfl rfl (by decide) rfl (fun ls hl => ?_)
        refine lv_goto (tgt := 44) hx hb d_m1204_74 (by decide) ?_
        exact ih (s0_j69 + s1_j69) (v4_44 + (1 : Int32)) hf H locs ls hP hD hS (lv_sub hl [2, 3, 4, 1, 0] rfl)
      have hf : f_M_look_L44b v2_44 mo_coefficients N (f_M_look_L44 v2_44 mo_coefficients N k) v3_44 v4_44 = some z := hf
      unfold f_M_look_L44b at hf
      refine lv_iload hx hb d_m1204_44 (lv_at hl 4 rfl) ?_
      refine lv_bipush (v := (64 : Int32)) hx hb d_m1204_46 (by decide) ?_
      refine lv_iload_n hx hb d_m1204_48 rfl (lv_at hl 2 rfl) ?_
      refine lv_imul hx hb d_m1204_49 ?_
      refine lv_icmp_ge (tgt := 77) hx hb d_m1204_50 (by decide) (fun hc => ?_) (fun hc => ?_)
      · replace hf := (if_pos hc).symm.trans hf
        obtain rfl := Option.some.inj hf
        exact hE0  H locs ls hP hD hS (lv_sub hl [0, 1, 2, 3] rfl)
      · replace hf := (if_neg hc).symm.trans hf
        refine lv_iload_n hx hb d_m1204_53 rfl (lv_at hl 3 rfl) ?_
        refine lv_aload_n hx hb d_m1204_54 rfl (lv_at hl 0 rfl) ?_
        refine va_get (D := (dC, dI)) (ci := 11) (v := .ref a_mo_coefficients) (C := "ScanCoderModel") (T := T_11) (N := 49) hx hb hts n0 hown hK hP 0 rfl rfl 13 (by decide) k4 (fun _ h9 => h9) rfl d_m1204_55 ?_
        refine lv_iload hx hb d_m1204_58 (lv_at hl 4 rfl) ?_
        obtain ⟨hi, hf⟩ := ob_if hf
        refine va_sald hx hb hK hP 5 2 rfl rfl hi d_m1204_60 ?_
        refine lv_if_eq (tgt := 68) hx hb d_m1204_61 (by decide) (fun hc => ?_) (fun hc => ?_)
        · replace hf := (if_pos hc).symm.trans hf
          refine lv_iconst (v := (0 : Int32)) hx hb d_m1204_68 (by decide) ?_
          exact J44_69 v3_44 (0 : Int32) hf H locs ls hP hD hS (lv_sub hl [0, 1, 2, 4] rfl)
        · replace hf := (if_neg hc).symm.trans hf
          refine lv_iconst (v := (1 : Int32)) hx hb d_m1204_64 (by decide) ?_
          refine lv_goto (tgt := 69) hx hb d_m1204_65 (by decide) ?_
          exact J44_69 v3_44 (1 : Int32) hf H locs ls hP hD hS (lv_sub hl [0, 1, 2, 4] rfl)
  have L83 : ∀ (v2_83 : Int32) (v3_83 : Int32) (mo_thrown_83 : Int32) (z : Int32), (GW (dC, dI) A p l e (headSpec ws_m1204 rm_M_look).room s m args below meth c 0 0 Q 7 108 (w_M_look cI cB cS cT a_mo a_mo_across a_mo_down a_mo_ownAcross a_mo_ownDown a_mo_coefficients a_mo_words a_mo_h a_mo_v a_mo_base a_mo_before0 a_mo_draftCounts a_mo_draft a_mo_lengths a_mo_codes a_mo_directOf a_mo_otherOf a_mo_data a_mo_out a_mo_times a_mo_prediction a_mo_runBits a_mo_toCome a_mo_timesKept mo_thrown_83 mo_width mo_height mo_many mo_unitsAcross mo_unitsDown mo_drafts mo_mask mo_first mo_last mo_before mo_bits mo_interval mo_size mo_outs mo_part mo_parted mo_failed mo_counting mo_run mo_runMany mo_comes mo_at mo_taken mo_left mo_fault mo_across mo_down mo_ownAcross mo_ownDown mo_coefficients mo_words) [(0, .ref a_mo), (1, .int p0), (2, .int v2_83), (3, .int v3_83), (4, .int z)] []) → ∀ (k : Nat) (v4_83 : Int32) (v5_83 : Int32), f_M_look_L83 mo_words N k (v4_83, v5_83) = some z → GW (dC, dI) A p l e (headSpec ws_m1204 rm_M_look).room s m args below meth c 0 0 Q 7 83 (w_M_look cI cB cS cT a_mo a_mo_across a_mo_down a_mo_ownAcross a_mo_ownDown a_mo_coefficients a_mo_words a_mo_h a_mo_v a_mo_base a_mo_before0 a_mo_draftCounts a_mo_draft a_mo_lengths a_mo_codes a_mo_directOf a_mo_otherOf a_mo_data a_mo_out a_mo_times a_mo_prediction a_mo_runBits a_mo_toCome a_mo_timesKept mo_thrown_83 mo_width mo_height mo_many mo_unitsAcross mo_unitsDown mo_drafts mo_mask mo_first mo_last mo_before mo_bits mo_interval mo_size mo_outs mo_part mo_parted mo_failed mo_counting mo_run mo_runMany mo_comes mo_at mo_taken mo_left mo_fault mo_across mo_down mo_ownAcross mo_ownDown mo_coefficients mo_words) [(0, .ref a_mo), (1, .int p0), (2, .int v2_83), (3, .int v3_83), (4, .int v4_83), (5, .int v5_83)] [] := by
    intro v2_83 v3_83 mo_thrown_83 z hE0 k
    induction k with
    | zero =>
      intro v4_83 v5_83 hf
      exact (it_zero hf).elim
    | succ k ih =>
      intro v4_83 v5_83 hf H locs ls hP hD hS hl
      have hf : f_M_look_L83b mo_words N (f_M_look_L83 mo_words N k) v4_83 v5_83 = some z := hf
      unfold f_M_look_L83b at hf
      refine lv_iload hx hb d_m1204_83 (lv_at hl 5 rfl) ?_
      refine lv_bipush (v := (8 : Int32)) hx hb d_m1204_85 (by decide) ?_
      refine lv_icmp_ge (tgt := 108) hx hb d_m1204_87 (by decide) (fun hc => ?_) (fun hc => ?_)
      · replace hf := (if_pos hc).symm.trans hf
        obtain rfl := Option.some.inj hf
        exact hE0  H locs ls hP hD hS (lv_sub hl [0, 1, 2, 3, 4] rfl)
      · replace hf := (if_neg hc).symm.trans hf
        refine lv_iload hx hb d_m1204_90 (lv_at hl 4 rfl) ?_
        refine lv_aload_n hx hb d_m1204_92 rfl (lv_at hl 0 rfl) ?_
        refine va_get (D := (dC, dI)) (ci := 11) (v := .ref a_mo_words) (C := "ScanCoderModel") (T := T_11) (N := 49) hx hb hts n0 hown hK hP 0 rfl rfl 18 (by decide) k5 (fun _ h9 => h9) rfl d_m1204_93 ?_
        refine lv_iload hx hb d_m1204_96 (lv_at hl 5 rfl) ?_
        obtain ⟨hi, hf⟩ := ob_if hf
        refine va_iald hx hb hK hP 6 0 rfl rfl hi d_m1204_98 ?_
        refine lv_iadd hx hb d_m1204_99 ?_
        refine lv_istore (lv' := [(4, .int (v4_83 + (mo_words v5_83.toNatClampNeg))), (0, .ref a_mo), (1, .int p0), (2, .int v2_83), (3, .int v3_83), (5, .int v5_83)]) hx hb d_m1204_100 hl (by decide) rfl (fun ls hl => ?_)
        refine lv_iinc (v := v5_83 + (1 : Int32)) (lv' := [(5, .int (v5_83 + (1 : Int32))), (4, .int (v4_83 + (mo_words v5_83.toNatClampNeg))), (0, .ref a_mo), (1, .int p0), (2, .int v2_83), (3, .int v3_83)]) hx hb d_m1204_102 hl (k := 5) rfl rfl (by decide) rfl (fun ls hl => ?_)
        refine lv_goto (tgt := 83) hx hb d_m1204_105 (by decide) ?_
        exact ih (v4_83 + (mo_words v5_83.toNatClampNeg)) (v5_83 + (1 : Int32)) hf H locs ls hP hD hS (lv_sub hl [2, 3, 4, 5, 1, 0] rfl)
  have J195 : ∀ (v2_j195 : Int32) (v3_j195 : Int32) (v4_j195 : Int32) (mo_thrown_j195 : Int32), f_M_look_J195 N p0 mo_size mo_thrown_j195 v2_j195 mo_unitsAcross mo_unitsDown mo_mask mo_ownAcross mo_ownDown mo_interval v3_j195 v4_j195 = some z → GW (dC, dI) A p l e (headSpec ws_m1204 rm_M_look).room s m args below meth c 0 0 Q 7 195 (w_M_look cI cB cS cT a_mo a_mo_across a_mo_down a_mo_ownAcross a_mo_ownDown a_mo_coefficients a_mo_words a_mo_h a_mo_v a_mo_base a_mo_before0 a_mo_draftCounts a_mo_draft a_mo_lengths a_mo_codes a_mo_directOf a_mo_otherOf a_mo_data a_mo_out a_mo_times a_mo_prediction a_mo_runBits a_mo_toCome a_mo_timesKept mo_thrown_j195 mo_width mo_height mo_many mo_unitsAcross mo_unitsDown mo_drafts mo_mask mo_first mo_last mo_before mo_bits mo_interval mo_size mo_outs mo_part mo_parted mo_failed mo_counting mo_run mo_runMany mo_comes mo_at mo_taken mo_left mo_fault mo_across mo_down mo_ownAcross mo_ownDown mo_coefficients mo_words) [(0, .ref a_mo), (1, .int p0), (2, .int v2_j195), (3, .int v3_j195), (4, .int v4_j195)] [] := by
    intro v2_j195 v3_j195 v4_j195 mo_thrown_j195 hf H locs ls hP hD hS hl
    unfold f_M_look_J195 at hf
    refine lv_iload_n hx hb d_m1204_195 rfl (lv_at hl 1 rfl) ?_
    refine lv_if_ne (tgt := 206) hx hb d_m1204_196 (by decide) (fun hc => ?_) (fun hc => ?_)
    · replace hf := (if_neg hc).symm.trans hf
      refine lv_iload_n hx hb d_m1204_206 rfl (lv_at hl 1 rfl) ?_
      refine lv_iconst (v := (1 : Int32)) hx hb d_m1204_207 (by decide) ?_
      refine lv_icmp_ne (tgt := 215) hx hb d_m1204_208 (by decide) (fun hc => ?_) (fun hc => ?_)
      · replace hf := (if_neg hc).symm.trans hf
        refine lv_iload_n hx hb d_m1204_215 rfl (lv_at hl 1 rfl) ?_
        refine lv_iconst (v := (2 : Int32)) hx hb d_m1204_216 (by decide) ?_
        refine lv_icmp_ne (tgt := 227) hx hb d_m1204_217 (by decide) (fun hc => ?_) (fun hc => ?_)
        · replace hf := (if_neg hc).symm.trans hf
          refine lv_iload_n hx hb d_m1204_227 rfl (lv_at hl 1 rfl) ?_
          refine lv_iconst (v := (3 : Int32)) hx hb d_m1204_228 (by decide) ?_
          refine lv_icmp_ne (tgt := 239) hx hb d_m1204_229 (by decide) (fun hc => ?_) (fun hc => ?_)
          · replace hf := (if_neg hc).symm.trans hf
            refine lv_iload_n hx hb d_m1204_239 rfl (lv_at hl 1 rfl) ?_
            refine lv_iconst (v := (4 : Int32)) hx hb d_m1204_240 (by decide) ?_
            refine lv_icmp_ne (tgt := 248) hx hb d_m1204_241 (by decide) (fun hc => ?_) (fun hc => ?_)
            · replace hf := (if_neg hc).symm.trans hf
              refine lv_iload_n hx hb d_m1204_248 rfl (lv_at hl 1 rfl) ?_
              refine lv_iconst (v := (5 : Int32)) hx hb d_m1204_249 (by decide) ?_
              refine lv_icmp_ne (tgt := 258) hx hb d_m1204_250 (by decide) (fun hc => ?_) (fun hc => ?_)
              · replace hf := (if_neg hc).symm.trans hf
                refine lv_iconst (v := (-1 : Int32)) hx hb d_m1204_258 (by decide) ?_
                obtain rfl := Option.some.inj hf
                subst hQ
                subst hAe
                exact W.iret (v := (-1 : Int32)) hx hb hr (fun t ht hW => ⟨⟨(-1 : Int32), (), rfl, rfl, by rw [ht]; exact hP, hD⟩, hS.F ht⟩) hS.2.2 d_m1204_259
              · replace hf := (if_pos hc).symm.trans hf
                refine lv_iload hx hb d_m1204_253 (lv_at hl 4 rfl) ?_
                refine lv_goto (tgt := 259) hx hb d_m1204_255 (by decide) ?_
                obtain rfl := Option.some.inj hf
                subst hQ
                subst hAe
                exact W.iret (v := v4_j195) hx hb hr (fun t ht hW => ⟨⟨v4_j195, (), rfl, rfl, by rw [ht]; exact hP, hD⟩, hS.F ht⟩) hS.2.2 d_m1204_259
            · replace hf := (if_pos hc).symm.trans hf
              refine lv_iload_n hx hb d_m1204_244 rfl (lv_at hl 3 rfl) ?_
              refine lv_goto (tgt := 259) hx hb d_m1204_245 (by decide) ?_
              obtain rfl := Option.some.inj hf
              subst hQ
              subst hAe
              exact W.iret (v := v3_j195) hx hb hr (fun t ht hW => ⟨⟨v3_j195, (), rfl, rfl, by rw [ht]; exact hP, hD⟩, hS.F ht⟩) hS.2.2 d_m1204_259
          · replace hf := (if_pos hc).symm.trans hf
            refine lv_aload_n hx hb d_m1204_232 rfl (lv_at hl 0 rfl) ?_
            refine va_get (D := (dC, dI)) (ci := 11) (v := .int mo_interval) (C := "ScanCoderModel") (T := T_11) (N := 49) hx hb hts n0 hown hK hP 0 rfl rfl 28 (by decide) k6 (fun _ h9 => h9) rfl d_m1204_233 ?_
            refine lv_goto (tgt := 259) hx hb d_m1204_236 (by decide) ?_
            obtain rfl := Option.some.inj hf
            subst hQ
            subst hAe
            exact W.iret (v := mo_interval) hx hb hr (fun t ht hW => ⟨⟨mo_interval, (), rfl, rfl, by rw [ht]; exact hP, hD⟩, hS.F ht⟩) hS.2.2 d_m1204_259
        · replace hf := (if_pos hc).symm.trans hf
          refine lv_aload_n hx hb d_m1204_220 rfl (lv_at hl 0 rfl) ?_
          obtain ⟨z4, hz4, hf⟩ := ob_bind hf
          refine vp_callSi (g_run (va_runV (As := []) (rest := []) ⟨hx, hb, hml, hown, hts⟩ (c_M_units l dC dI cI cB cS cT N a_mo a_mo_ownAcross a_mo_ownDown a_mo_h a_mo_v a_mo_across a_mo_down a_mo_base a_mo_coefficients a_mo_before0 a_mo_draftCounts a_mo_draft a_mo_words a_mo_lengths a_mo_codes a_mo_directOf a_mo_otherOf a_mo_data a_mo_out a_mo_times a_mo_prediction a_mo_runBits a_mo_toCome a_mo_timesKept mo_thrown_j195 mo_width mo_height mo_many mo_unitsAcross mo_unitsDown mo_drafts mo_mask mo_first mo_last mo_before mo_bits mo_interval mo_size mo_outs mo_part mo_parted mo_failed mo_counting mo_run mo_runMany mo_comes mo_at mo_taken mo_left mo_fault mo_ownAcross mo_ownDown z4 hz4) ⟨(callB_of 0 hts (gi tw_1050 rfl) rfl rfl rfl (hts _ (List.mem_cons_of_mem _ tw_16)) (hts _ (List.mem_cons_of_mem _ tw_1047)) (by decide +kernel) ⟨Nat.le_of_ble_eq_true rfl, Nat.le_of_ble_eq_true rfl⟩), hts _ (List.mem_cons_of_mem _ tw_1049), hts _ (List.mem_cons_of_mem _ ts_m1050)⟩ ⟨gp_blind, va_recv hK hP (ci := 11) (q0 := 0) rfl rfl, gp_at hKN (g_pm hP [0, 3, 4] rfl)⟩ rfl rfl hl.1 rfl (lv_room (Nat.le_of_ble_eq_true rfl)) d_m1204_221 ⟨Nat.zero_le _, Nat.zero_le _⟩)) (fun r hrz4 => ?_)
          have hrz4 := hrz4.symm
          subst hrz4
          refine W.eq (g2 := F0 m 224 ls [.int z4]) rfl ?_
          refine lv_goto (tgt := 259) hx hb d_m1204_224 (by decide) ?_
          obtain rfl := Option.some.inj hf
          subst hQ
          subst hAe
          exact W.iret (v := z4) hx hb hr (fun t ht hW => ⟨⟨z4, (), rfl, rfl, by rw [ht]; exact hP, hD⟩, hS.F ht⟩) hS.2.2 d_m1204_259
      · replace hf := (if_pos hc).symm.trans hf
        refine lv_iload_n hx hb d_m1204_211 rfl (lv_at hl 2 rfl) ?_
        refine lv_goto (tgt := 259) hx hb d_m1204_212 (by decide) ?_
        obtain rfl := Option.some.inj hf
        subst hQ
        subst hAe
        exact W.iret (v := v2_j195) hx hb hr (fun t ht hW => ⟨⟨v2_j195, (), rfl, rfl, by rw [ht]; exact hP, hD⟩, hS.F ht⟩) hS.2.2 d_m1204_259
    · replace hf := (if_pos hc).symm.trans hf
      refine lv_aload_n hx hb d_m1204_199 rfl (lv_at hl 0 rfl) ?_
      refine va_get (D := (dC, dI)) (ci := 11) (v := .int mo_size) (C := "ScanCoderModel") (T := T_11) (N := 49) hx hb hts n0 hown hK hP 0 rfl rfl 30 (by decide) k7 (fun _ h9 => h9) rfl d_m1204_200 ?_
      refine lv_goto (tgt := 259) hx hb d_m1204_203 (by decide) ?_
      obtain rfl := Option.some.inj hf
      subst hQ
      subst hAe
      exact W.iret (v := mo_size) hx hb hr (fun t ht hW => ⟨⟨mo_size, (), rfl, rfl, by rw [ht]; exact hP, hD⟩, hS.F ht⟩) hS.2.2 d_m1204_259
  have hgo : ∀ (H : Heap) (locs : List Loc), va_P (dC, dI) vwCl (w_M_look cI cB cS cT a_mo a_mo_across a_mo_down a_mo_ownAcross a_mo_ownDown a_mo_coefficients a_mo_words a_mo_h a_mo_v a_mo_base a_mo_before0 a_mo_draftCounts a_mo_draft a_mo_lengths a_mo_codes a_mo_directOf a_mo_otherOf a_mo_data a_mo_out a_mo_times a_mo_prediction a_mo_runBits a_mo_toCome a_mo_timesKept mo_thrown mo_width mo_height mo_many mo_unitsAcross mo_unitsDown mo_drafts mo_mask mo_first mo_last mo_before mo_bits mo_interval mo_size mo_outs mo_part mo_parted mo_failed mo_counting mo_run mo_runMany mo_comes mo_at mo_taken mo_left mo_fault mo_across mo_down mo_ownAcross mo_ownDown mo_coefficients mo_words) H → va_S A s.heap H locs → W p l e (headSpec ws_m1204 rm_M_look).room s m args below meth c H locs 0 0 Q (F0 m 0 ls []) := by
    intro H locs hP hS
    unfold f_M_look at hf
    refine lv_aload_n hx hb d_m1204_0 rfl (lv_at hl 0 rfl) ?_
    refine lv_iconst (v := (0 : Int32)) hx hb d_m1204_1 (by decide) ?_
    refine va_put (D := (dC, dI)) (ci := 11) (v := .int (0 : Int32)) (ty := .int) (C := "ScanCoderModel") (T := T_11) (N := 49) hx hb hts n0 ty_11 tyok_11 nm_11 hown hK hP hD hS 0 rfl rfl 0 (by decide) k0 (fun _ h9 => h9) rfl (by decide +kernel) rfl rfl (Nat.le_of_ble_eq_true rfl) d_m1204_2 (fun H locs hP hD hS => ?_)
    have hP : va_P (dC, dI) vwCl (w_M_look cI cB cS cT a_mo a_mo_across a_mo_down a_mo_ownAcross a_mo_ownDown a_mo_coefficients a_mo_words a_mo_h a_mo_v a_mo_base a_mo_before0 a_mo_draftCounts a_mo_draft a_mo_lengths a_mo_codes a_mo_directOf a_mo_otherOf a_mo_data a_mo_out a_mo_times a_mo_prediction a_mo_runBits a_mo_toCome a_mo_timesKept (0 : Int32) mo_width mo_height mo_many mo_unitsAcross mo_unitsDown mo_drafts mo_mask mo_first mo_last mo_before mo_bits mo_interval mo_size mo_outs mo_part mo_parted mo_failed mo_counting mo_run mo_runMany mo_comes mo_at mo_taken mo_left mo_fault mo_across mo_down mo_ownAcross mo_ownDown mo_coefficients mo_words) H := hP
    have hD : va_D A (w_M_look cI cB cS cT a_mo a_mo_across a_mo_down a_mo_ownAcross a_mo_ownDown a_mo_coefficients a_mo_words a_mo_h a_mo_v a_mo_base a_mo_before0 a_mo_draftCounts a_mo_draft a_mo_lengths a_mo_codes a_mo_directOf a_mo_otherOf a_mo_data a_mo_out a_mo_times a_mo_prediction a_mo_runBits a_mo_toCome a_mo_timesKept (0 : Int32) mo_width mo_height mo_many mo_unitsAcross mo_unitsDown mo_drafts mo_mask mo_first mo_last mo_before mo_bits mo_interval mo_size mo_outs mo_part mo_parted mo_failed mo_counting mo_run mo_runMany mo_comes mo_at mo_taken mo_left mo_fault mo_across mo_down mo_ownAcross mo_ownDown mo_coefficients mo_words) := hD
    refine lv_iconst (v := (0 : Int32)) hx hb d_m1204_5 (by decide) ?_
    refine lv_istore_n (lv' := [(2, .int (0 : Int32)), (0, .ref a_mo), (1, .int p0)]) hx hb d_m1204_6 rfl hl (by decide) rfl (fun ls hl => ?_)
    refine lv_iconst (v := (0 : Int32)) hx hb d_m1204_7 (by decide) ?_
    refine lv_istore_n (lv' := [(3, .int (0 : Int32)), (2, .int (0 : Int32)), (0, .ref a_mo), (1, .int p0)]) hx hb d_m1204_8 rfl hl (by decide) rfl (fun ls hl => ?_)
    obtain ⟨z1, hz1, hf⟩ := ob_bind hf
    refine L9 (0 : Int32) z1 ?_ N (0 : Int32) (0 : Int32) hz1 H locs ls hP hD hS (lv_sub hl [2, 3, 1, 0] rfl)
    · intro H locs ls hP hD hS hl
      refine lv_iconst (v := (0 : Int32)) hx hb d_m1204_39 (by decide) ?_
      refine lv_istore_n (lv' := [(3, .int (0 : Int32)), (0, .ref a_mo), (1, .int p0), (2, .int z1)]) hx hb d_m1204_40 rfl hl (by decide) rfl (fun ls hl => ?_)
      refine lv_iconst (v := (0 : Int32)) hx hb d_m1204_41 (by decide) ?_
      refine lv_istore (lv' := [(4, .int (0 : Int32)), (3, .int (0 : Int32)), (0, .ref a_mo), (1, .int p0), (2, .int z1)]) hx hb d_m1204_42 hl (by decide) rfl (fun ls hl => ?_)
      obtain ⟨z2, hz2, hf⟩ := ob_bind hf
      refine L44 z1 (0 : Int32) z2 ?_ N (0 : Int32) (0 : Int32) hz2 H locs ls hP hD hS (lv_sub hl [2, 3, 4, 1, 0] rfl)
      · intro H locs ls hP hD hS hl
        refine lv_iconst (v := (0 : Int32)) hx hb d_m1204_77 (by decide) ?_
        refine lv_istore (lv' := [(4, .int (0 : Int32)), (0, .ref a_mo), (1, .int p0), (2, .int z1), (3, .int z2)]) hx hb d_m1204_78 hl (by decide) rfl (fun ls hl => ?_)
        refine lv_iconst (v := (0 : Int32)) hx hb d_m1204_80 (by decide) ?_
        refine lv_istore (lv' := [(5, .int (0 : Int32)), (4, .int (0 : Int32)), (0, .ref a_mo), (1, .int p0), (2, .int z1), (3, .int z2)]) hx hb d_m1204_81 hl (by decide) rfl (fun ls hl => ?_)
        obtain ⟨z3, hz3, hf⟩ := ob_bind hf
        refine L83 z1 z2 (0 : Int32) z3 ?_ N (0 : Int32) (0 : Int32) hz3 H locs ls hP hD hS (lv_sub hl [2, 3, 4, 5, 1, 0] rfl)
        · intro H locs ls hP hD hS hl
          refine lv_iload_n hx hb d_m1204_108 rfl (lv_at hl 1 rfl) ?_
          refine lv_bipush (v := (8 : Int32)) hx hb d_m1204_109 (by decide) ?_
          refine lv_icmp_lt (tgt := 195) hx hb d_m1204_111 (by decide) (fun hc => ?_) (fun hc => ?_)
          · replace hf := (if_pos hc).symm.trans hf
            exact J195 z1 z2 z3 (0 : Int32) hf H locs ls hP hD hS hl
          · replace hf := (if_neg hc).symm.trans hf
            refine lv_iload_n hx hb d_m1204_114 rfl (lv_at hl 1 rfl) ?_
            refine lv_bipush (v := (8 : Int32)) hx hb d_m1204_115 (by decide) ?_
            refine lv_iconst (v := (4 : Int32)) hx hb d_m1204_117 (by decide) ?_
            refine lv_aload_n hx hb d_m1204_118 rfl (lv_at hl 0 rfl) ?_
            refine va_get (D := (dC, dI)) (ci := 11) (v := .int mo_many) (C := "ScanCoderModel") (T := T_11) (N := 49) hx hb hts n0 hown hK hP 0 rfl rfl 3 (by decide) k1 (fun _ h9 => h9) rfl d_m1204_119 ?_
            refine lv_imul hx hb d_m1204_122 ?_
            refine lv_iadd hx hb d_m1204_123 ?_
            refine lv_icmp_ge (tgt := 195) hx hb d_m1204_124 (by decide) (fun hc => ?_) (fun hc => ?_)
            · replace hf := (if_pos hc).symm.trans hf
              exact J195 z1 z2 z3 (0 : Int32) hf H locs ls hP hD hS hl
            · replace hf := (if_neg hc).symm.trans hf
              refine lv_iload_n hx hb d_m1204_127 rfl (lv_at hl 1 rfl) ?_
              refine lv_bipush (v := (8 : Int32)) hx hb d_m1204_128 (by decide) ?_
              refine lv_isub hx hb d_m1204_130 ?_
              refine lv_iconst (v := (4 : Int32)) hx hb d_m1204_131 (by decide) ?_
              refine lv_idiv hx hb d_m1204_132 (by decide) ?_
              refine lv_istore (lv' := [(5, .int ((p0 - (8 : Int32)) / (4 : Int32))), (0, .ref a_mo), (1, .int p0), (2, .int z1), (3, .int z2), (4, .int z3)]) hx hb d_m1204_133 hl (by decide) rfl (fun ls hl => ?_)
              refine lv_iload_n hx hb d_m1204_135 rfl (lv_at hl 2 rfl) ?_
              refine lv_iconst (v := (4 : Int32)) hx hb d_m1204_136 (by decide) ?_
              refine lv_irem hx hb d_m1204_137 (by decide) ?_
              refine lv_istore (lv' := [(6, .int (p0 - p0 / (4 : Int32) * (4 : Int32))), (5, .int ((p0 - (8 : Int32)) / (4 : Int32))), (0, .ref a_mo), (1, .int p0), (2, .int z1), (3, .int z2), (4, .int z3)]) hx hb d_m1204_138 hl (by decide) rfl (fun ls hl => ?_)
              refine lv_iload hx hb d_m1204_140 (lv_at hl 0 rfl) ?_
              refine lv_if_ne (tgt := 155) hx hb d_m1204_142 (by decide) (fun hc => ?_) (fun hc => ?_)
              · replace hf := (if_neg hc).symm.trans hf
                refine lv_iload hx hb d_m1204_155 (lv_at hl 0 rfl) ?_
                refine lv_iconst (v := (1 : Int32)) hx hb d_m1204_157 (by decide) ?_
                refine lv_icmp_ne (tgt := 171) hx hb d_m1204_158 (by decide) (fun hc => ?_) (fun hc => ?_)
                · replace hf := (if_neg hc).symm.trans hf
                  refine lv_iload hx hb d_m1204_171 (lv_at hl 0 rfl) ?_
                  refine lv_iconst (v := (2 : Int32)) hx hb d_m1204_173 (by decide) ?_
                  refine lv_icmp_ne (tgt := 187) hx hb d_m1204_174 (by decide) (fun hc => ?_) (fun hc => ?_)
                  · replace hf := (if_neg hc).symm.trans hf
                    refine lv_aload_n hx hb d_m1204_187 rfl (lv_at hl 2 rfl) ?_
                    refine va_get (D := (dC, dI)) (ci := 11) (v := .ref a_mo_ownDown) (C := "ScanCoderModel") (T := T_11) (N := 49) hx hb hts n0 hown hK hP 0 rfl rfl 9 (by decide) k8 (fun _ h9 => h9) rfl d_m1204_188 ?_
                    refine lv_iload hx hb d_m1204_191 (lv_at hl 1 rfl) ?_
                    obtain ⟨hi, hf⟩ := ob_if hf
                    refine va_iald hx hb hK hP 4 0 rfl rfl hi d_m1204_193 ?_
                    obtain rfl := Option.some.inj hf
                    subst hQ
                    subst hAe
                    exact W.iret (v := mo_ownDown ((p0 - (8 : Int32)) / (4 : Int32)).toNatClampNeg) hx hb hr (fun t ht hW => ⟨⟨mo_ownDown ((p0 - (8 : Int32)) / (4 : Int32)).toNatClampNeg, (), rfl, rfl, by rw [ht]; exact hP, hD⟩, hS.F ht⟩) hS.2.2 d_m1204_194
                  · replace hf := (if_pos hc).symm.trans hf
                    refine lv_aload_n hx hb d_m1204_177 rfl (lv_at hl 2 rfl) ?_
                    refine va_get (D := (dC, dI)) (ci := 11) (v := .ref a_mo_ownAcross) (C := "ScanCoderModel") (T := T_11) (N := 49) hx hb hts n0 hown hK hP 0 rfl rfl 8 (by decide) k9 (fun _ h9 => h9) rfl d_m1204_178 ?_
                    refine lv_iload hx hb d_m1204_181 (lv_at hl 1 rfl) ?_
                    obtain ⟨hi, hf⟩ := ob_if hf
                    refine va_iald hx hb hK hP 3 0 rfl rfl hi d_m1204_183 ?_
                    refine lv_goto (tgt := 194) hx hb d_m1204_184 (by decide) ?_
                    obtain rfl := Option.some.inj hf
                    subst hQ
                    subst hAe
                    exact W.iret (v := mo_ownAcross ((p0 - (8 : Int32)) / (4 : Int32)).toNatClampNeg) hx hb hr (fun t ht hW => ⟨⟨mo_ownAcross ((p0 - (8 : Int32)) / (4 : Int32)).toNatClampNeg, (), rfl, rfl, by rw [ht]; exact hP, hD⟩, hS.F ht⟩) hS.2.2 d_m1204_194
                · replace hf := (if_pos hc).symm.trans hf
                  refine lv_aload_n hx hb d_m1204_161 rfl (lv_at hl 2 rfl) ?_
                  refine va_get (D := (dC, dI)) (ci := 11) (v := .ref a_mo_down) (C := "ScanCoderModel") (T := T_11) (N := 49) hx hb hts n0 hown hK hP 0 rfl rfl 7 (by decide) k3 (fun _ h9 => h9) rfl d_m1204_162 ?_
                  refine lv_iload hx hb d_m1204_165 (lv_at hl 1 rfl) ?_
                  obtain ⟨hi, hf⟩ := ob_if hf
                  refine va_iald hx hb hK hP 2 0 rfl rfl hi d_m1204_167 ?_
                  refine lv_goto (tgt := 194) hx hb d_m1204_168 (by decide) ?_
                  obtain rfl := Option.some.inj hf
                  subst hQ
                  subst hAe
                  exact W.iret (v := mo_down ((p0 - (8 : Int32)) / (4 : Int32)).toNatClampNeg) hx hb hr (fun t ht hW => ⟨⟨mo_down ((p0 - (8 : Int32)) / (4 : Int32)).toNatClampNeg, (), rfl, rfl, by rw [ht]; exact hP, hD⟩, hS.F ht⟩) hS.2.2 d_m1204_194
              · replace hf := (if_pos hc).symm.trans hf
                refine lv_aload_n hx hb d_m1204_145 rfl (lv_at hl 2 rfl) ?_
                refine va_get (D := (dC, dI)) (ci := 11) (v := .ref a_mo_across) (C := "ScanCoderModel") (T := T_11) (N := 49) hx hb hts n0 hown hK hP 0 rfl rfl 6 (by decide) k2 (fun _ h9 => h9) rfl d_m1204_146 ?_
                refine lv_iload hx hb d_m1204_149 (lv_at hl 1 rfl) ?_
                obtain ⟨hi, hf⟩ := ob_if hf
                refine va_iald hx hb hK hP 1 0 rfl rfl hi d_m1204_151 ?_
                refine lv_goto (tgt := 194) hx hb d_m1204_152 (by decide) ?_
                obtain rfl := Option.some.inj hf
                subst hQ
                subst hAe
                exact W.iret (v := mo_across ((p0 - (8 : Int32)) / (4 : Int32)).toNatClampNeg) hx hb hr (fun t ht hW => ⟨⟨mo_across ((p0 - (8 : Int32)) / (4 : Int32)).toNatClampNeg, (), rfl, rfl, by rw [ht]; exact hP, hD⟩, hS.F ht⟩) hS.2.2 d_m1204_194
  exact hgo _ _ hP hS
