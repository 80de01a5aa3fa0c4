/-! whole numbers and the machine's -/
theorem zbm (x : Int) : x.bmod 4294967296 = zwr x := by
  unfold zwr Int.bmod
  dsimp only
  split <;> omega
theorem zbl (x : Int) : x.bmod 18446744073709551616 = zwl x := by
  unfold zwl Int.bmod
  dsimp only
  split <;> omega
theorem zti (x : Int) : (Int32.ofInt x).toInt = zwr x := by rw [Int32.toInt_ofInt]; exact zbm x
theorem ztl (x : Int) : (Int64.ofInt x).toInt = zwl x := by rw [Int64.toInt_ofInt]; exact zbl x
theorem zwr_id {x : Int} (h : zInR x) : zwr x = x := by unfold zInR at h; unfold zwr; omega
theorem zwr_in (x : Int) : zInR (zwr x) := by unfold zInR zwr; omega
theorem zwl_in (x : Int) : -9223372036854775808 ≤ zwl x ∧ zwl x < 9223372036854775808 := by unfold zwl; omega
theorem zwl_id {x : Int} (h : -9223372036854775808 ≤ x ∧ x < 9223372036854775808) : zwl x = x := by unfold zwl; omega
theorem ztx {x : Int} (h : zInR x) : (Int32.ofInt x).toInt = x := by rw [zti, zwr_id h]
theorem zoi_inj {a b : Int32} (h : a.toInt = b.toInt) : a = b := Int32.toInt_inj.mp h
theorem zol_inj {a b : Int64} (h : a.toInt = b.toInt) : a = b := Int64.toInt_inj.mp h
theorem zw_w (x : Int) : zwr (zwr x) = zwr x := zwr_id (zwr_in x)
theorem z_ofw (x : Int) : Int32.ofInt (zwr x) = Int32.ofInt x := zoi_inj (by rw [zti, zti, zw_w])
theorem z_ofl (x : Int) : Int64.ofInt (zwl x) = Int64.ofInt x := zol_inj (by rw [ztl, ztl, zwl_id (zwl_in x)])
theorem z_add (x y : Int) : Int32.ofInt x + Int32.ofInt y = Int32.ofInt (zwr (x + y)) := by rw [z_ofw, Int32.ofInt_add]
theorem z_sub (x y : Int) : Int32.ofInt x - Int32.ofInt y = Int32.ofInt (zwr (x - y)) := by rw [z_ofw, Int32.ofInt_sub]
theorem z_mul (x y : Int) : Int32.ofInt x * Int32.ofInt y = Int32.ofInt (zwr (x * y)) := by rw [z_ofw, Int32.ofInt_mul]
theorem z_neg (x : Int) : - Int32.ofInt x = Int32.ofInt (zwr (-x)) := by rw [z_ofw, Int32.ofInt_neg]
theorem z_addl (x y : Int) : Int64.ofInt x + Int64.ofInt y = Int64.ofInt (zwl (x + y)) := by rw [z_ofl, Int64.ofInt_add]
theorem z_mull (x y : Int) : Int64.ofInt x * Int64.ofInt y = Int64.ofInt (zwl (x * y)) := by rw [z_ofl, Int64.ofInt_mul]
theorem z_le {x y : Int} (hx : zInR x) (hy : zInR y) : Int32.ofInt x ≤ Int32.ofInt y ↔ x ≤ y := by rw [Int32.le_iff_toInt_le, ztx hx, ztx hy]
theorem z_lt {x y : Int} (hx : zInR x) (hy : zInR y) : Int32.ofInt x < Int32.ofInt y ↔ x < y := by rw [Int32.lt_iff_toInt_lt, ztx hx, ztx hy]
theorem z_eq {x y : Int} (hx : zInR x) (hy : zInR y) : Int32.ofInt x = Int32.ofInt y ↔ x = y := by rw [← Int32.toInt_inj, ztx hx, ztx hy]
theorem z_0 : (0 : Int32) = Int32.ofInt 0 := rfl
theorem z_div {x y : Int} (hx : zInR x) (hy : zInR y) : Int32.ofInt x / Int32.ofInt y = Int32.ofInt (zwr (x.tdiv y)) := by
  refine zoi_inj ?_
  rw [zti, zw_w, Int32.toInt_div, ztx hx, ztx hy]
  exact zbm _
theorem z_ne0 {y : Int} (hy : zInR y) (h : y ≠ 0) : ¬ Int32.ofInt y = 0 := by rw [z_0, z_eq hy ⟨by decide, by decide⟩]; exact h
theorem z_nat (n : Nat) : Int32.ofInt (n : Int) = nI n := rfl
theorem z_cl {i : Int} (hi : zInR i) (h : 0 ≤ i) : (Int32.ofInt i).toNatClampNeg = i.toNat := by
  show (Int32.ofInt i).toInt.toNat = i.toNat
  rw [ztx hi]
theorem z_in {i : Int} {N : Nat} (hi : zInR i) (h : 0 ≤ i) (h2 : i < (N : Int)) : vp_in (Int32.ofInt i) N := by
  unfold vp_in
  rw [z_cl hi h, z_0, z_lt hi ⟨by decide, by decide⟩]
  omega
theorem z_bip {b : Int} (h : -128 ≤ b ∧ b < 128) : (Int8.ofInt b).toInt32 = Int32.ofInt b := by
  refine zoi_inj ?_
  rw [Int8.toInt_toInt32, Int8.toInt_ofInt, zti, show Int8.size = 256 from rfl]
  unfold zwr Int.bmod
  dsimp only
  split <;> omega
theorem z_sip {b : Int} (h : -32768 ≤ b ∧ b < 32768) : (Int16.ofInt b).toInt32 = Int32.ofInt b := by
  refine zoi_inj ?_
  rw [Int16.toInt_toInt32, Int16.toInt_ofInt, zti, show Int16.size = 65536 from rfl]
  unfold zwr Int.bmod
  dsimp only
  split <;> omega
theorem z_i2l {x : Int} (h : zInR x) : (Int32.ofInt x).toInt64 = Int64.ofInt x := by
  refine zol_inj ?_
  rw [Int32.toInt_toInt64, ztx h, ztl, zwl_id (by unfold zInR at h; omega)]
theorem z_i2b {x : Int} (h : zInR x) : (Int32.ofInt x).toInt8.toInt32 = Int32.ofInt ((x + 128) % 256 - 128) := by
  refine zoi_inj ?_
  rw [Int8.toInt_toInt32, Int32.toInt_toInt8, ztx h, ztx (by unfold zInR; omega)]
  unfold Int.bmod
  dsimp only
  split <;> omega
theorem z_bv {x : Int} : (Int32.ofInt x).toBitVec.toNat = (x % 4294967296).toNat := by
  show (BitVec.ofInt 32 x).toNat = _
  rw [BitVec.toNat_ofInt]
  rfl
theorem z_i2c {x : Int} : ((Int32.ofInt x).toUInt32 % 65536).toInt32 = Int32.ofInt (x % 65536) := by
  rw [pk_char, z_bv, ← z_nat]
  congr 1
  omega
theorem z_and31 {x : Int} : Int32.ofInt x &&& Int32.ofInt 31 = Int32.ofInt (x % 32) := by
  rw [pk_and (Int32.ofInt x) (m := Int32.ofInt 31) 5 (by decide), z_bv, ← z_nat]
  congr 1
  omega
theorem z_and255 {x : Int} : Int32.ofInt x &&& Int32.ofInt 255 = Int32.ofInt (x % 256) := by
  rw [pk_and (Int32.ofInt x) (m := Int32.ofInt 255) 8 (by decide), z_bv, ← z_nat]
  congr 1
  omega
theorem z_shl {x : Int} : Int32.ofInt x <<< (Int32.ofInt 0 &&& 31) = Int32.ofInt x := sb_shl0 _
theorem z_shr {x : Int} : Int32.ofInt x >>> (Int32.ofInt 0 &&& 31) = Int32.ofInt x := sb_shr0 _
