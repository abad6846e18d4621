/-! ===== Integer.bitCount is the count of the first 24 bits ===== -/
theorem a_split {l h L H : Nat} (hl : l < 256) (hL : L < 256) : (l + 256 * h) &&& (L + 256 * H) = (l &&& L) + 256 * (h &&& H) := by
  have e1 : ((l + 256 * h) &&& (L + 256 * H)) % 2 ^ 8 = l &&& L := by
    rw [Nat.and_mod_two_pow, show (l + 256 * h) % 2 ^ 8 = l by omega, show (L + 256 * H) % 2 ^ 8 = L by omega]
  have e2 : ((l + 256 * h) &&& (L + 256 * H)) / 2 ^ 8 = h &&& H := by
    rw [Nat.and_div_two_pow, show (l + 256 * h) / 2 ^ 8 = h by omega, show (L + 256 * H) / 2 ^ 8 = H by omega]
  have e3 := Nat.mod_add_div ((l + 256 * h) &&& (L + 256 * H)) (2 ^ 8)
  rw [e1, e2] at e3
  exact e3.symm
theorem a_mask {a b c m : Nat} (ha : a < 256) (hb : b < 256) (hc : c < 256) (hm : m < 256) : (a + 256 * (b + 256 * c)) &&& (m + 256 * (m + 256 * (m + 256 * m))) = (a &&& m) + 256 * ((b &&& m) + 256 * (c &&& m)) := by
  have h : (c + 256 * 0) &&& (m + 256 * m) = (c &&& m) + 256 * (0 &&& m) := a_split hc hm
  rw [a_split ha hm, a_split hb hm]
  rw [Nat.mul_zero, Nat.add_zero, Nat.zero_and, Nat.mul_zero, Nat.add_zero] at h
  rw [h]
def t1 (a : Nat) : Nat := a - (a / 2 &&& 85)
def t2 (a : Nat) : Nat := (a &&& 51) + (a / 4 &&& 51)
def t3 (a : Nat) : Nat := (a + a / 16) % 16
def pb (a : Nat) : Nat := sm (fun k => b1 (a.testBit k)) 8
theorem m85 : ∀ a, a < 128 → ∀ e, e < 2 → (a + 128 * e) &&& 85 = a &&& 85 := by decide +kernel
theorem m51 : ∀ a, a < 64 → ∀ e, e < 4 → (a + 64 * e) &&& 51 = a &&& 51 := by decide +kernel
theorem t_pb : ∀ a, a < 256 → t3 (t2 (t1 a)) = pb a := by decide +kernel
theorem t_bd : ∀ a, a < 256 → t2 (t1 a) ≤ 68 ∧ t2 (t1 a) % 16 ≤ 4 ∧ t1 a < 256 ∧ pb a ≤ 8 := by decide +kernel
def pc1 (n : Nat) : Nat := n - (n / 2 ^ 1 &&& 1431655765)
def pc2 (n : Nat) : Nat := (n &&& 858993459) + (n / 2 ^ 2 &&& 858993459)
def pc3 (n : Nat) : Nat := (n + n / 2 ^ 4) &&& 252645135
def pc4 (n : Nat) : Nat := n + n / 2 ^ 8
def pc5 (n : Nat) : Nat := n + n / 2 ^ 16
theorem p1_s {a b c : Nat} (ha : a < 256) (hb : b < 256) (hc : c < 256) : pc1 (a + 256 * (b + 256 * c)) = t1 a + 256 * (t1 b + 256 * t1 c) := by
  have e : (a + 256 * (b + 256 * c)) / 2 ^ 1 = (a / 2 + 128 * (b % 2)) + 256 * ((b / 2 + 128 * (c % 2)) + 256 * (c / 2)) := by omega
  have m : (1431655765 : Nat) = 85 + 256 * (85 + 256 * (85 + 256 * 85)) := rfl
  rw [pc1, e, m, a_mask (by omega) (by omega) (by omega) (by omega), m85 (a / 2) (by omega) (b % 2) (by omega), m85 (b / 2) (by omega) (c % 2) (by omega), t1, t1, t1]
  have h1 : a / 2 &&& 85 ≤ a / 2 := Nat.and_le_left
  have h2 : b / 2 &&& 85 ≤ b / 2 := Nat.and_le_left
  have h3 : c / 2 &&& 85 ≤ c / 2 := Nat.and_le_left
  omega
theorem p2_s {a b c : Nat} (ha : a < 256) (hb : b < 256) (hc : c < 256) : pc2 (a + 256 * (b + 256 * c)) = t2 a + 256 * (t2 b + 256 * t2 c) := by
  have e : (a + 256 * (b + 256 * c)) / 2 ^ 2 = (a / 4 + 64 * (b % 4)) + 256 * ((b / 4 + 64 * (c % 4)) + 256 * (c / 4)) := by omega
  have m : (858993459 : Nat) = 51 + 256 * (51 + 256 * (51 + 256 * 51)) := rfl
  rw [pc2, e, m, a_mask ha hb hc (by omega), a_mask (by omega) (by omega) (by omega) (by omega), m51 (a / 4) (by omega) (b % 4) (by omega), m51 (b / 4) (by omega) (c % 4) (by omega), t2, t2, t2]
  omega
theorem p3_s {a b c : Nat} (ha : a ≤ 68) (hb : b ≤ 68) (hc : c ≤ 68) (hb4 : b % 16 ≤ 4) (hc4 : c % 16 ≤ 4) : pc3 (a + 256 * (b + 256 * c)) = t3 a + 256 * (t3 b + 256 * t3 c) := by
  have e : (a + 256 * (b + 256 * c)) + (a + 256 * (b + 256 * c)) / 2 ^ 4 = (a + a / 16 + 16 * (b % 16)) + 256 * ((b + b / 16 + 16 * (c % 16)) + 256 * (c + c / 16)) := by omega
  have m : (252645135 : Nat) = 15 + 256 * (15 + 256 * (15 + 256 * 15)) := rfl
  have q : ∀ x : Nat, x &&& 15 = x % 16 := fun x => Nat.and_two_pow_sub_one_eq_mod x 4
  rw [pc3, e, m, a_mask (by omega) (by omega) (by omega) (by omega), q, q, q, t3, t3, t3]
  omega
theorem p45_s {a b c : Nat} (ha : a ≤ 8) (hb : b ≤ 8) (hc : c ≤ 8) : pc5 (pc4 (a + 256 * (b + 256 * c))) &&& 63 = a + b + c := by
  have q : ∀ x : Nat, x &&& 63 = x % 64 := fun x => Nat.and_two_pow_sub_one_eq_mod x 6
  have h1 : (a + 256 * (b + 256 * c)) / 2 ^ 8 = b + 256 * c := by omega
  have h2 : (a + 256 * (b + 256 * c) + (b + 256 * c)) / 2 ^ 16 = c := by omega
  rw [q, pc5, pc4, h1, h2]
  omega
theorem bc1_n {n : Nat} (h : n < 2 ^ 32) : bc_1 (nI n) = nI (pc1 n) := by
  rw [bc_1, pk_ushrN h 1 1 (by decide)]
  show nI n - (nI (n / 2 ^ 1) &&& nI 1431655765) = nI (pc1 n)
  rw [nx_and, pk_sub (Nat.le_trans Nat.and_le_left (Nat.div_le_self _ _))]
  rfl
theorem bc2_n {n : Nat} (h : n < 2 ^ 32) : bc_2 (nI n) = nI (pc2 n) := by
  rw [bc_2, pk_ushrN h 2 2 (by decide)]
  show (nI n &&& nI 858993459) + (nI (n / 2 ^ 2) &&& nI 858993459) = nI (pc2 n)
  rw [nx_and, nx_and, nI_add]
  rfl
theorem bc3_n {n : Nat} (h : n < 2 ^ 32) : bc_3 (nI n) = nI (pc3 n) := by
  rw [bc_3, pk_ushrN h 4 4 (by decide)]
  show (nI n + nI (n / 2 ^ 4)) &&& nI 252645135 = nI (pc3 n)
  rw [nI_add, nx_and]
  rfl
theorem bc4_n {n : Nat} (h : n < 2 ^ 32) : bc_4 (nI n) = nI (pc4 n) := by
  rw [bc_4, pk_ushrN h 8 8 (by decide), nI_add]
  rfl
theorem bc5_n {n : Nat} (h : n < 2 ^ 32) : bc_5 (nI n) = nI (pc5 n) := by
  rw [bc_5, pk_ushrN h 16 16 (by decide), nI_add]
  rfl
theorem bc_n {n : Nat} (h : n < 2 ^ 24) : f_J6_bitCount_0f7a4 (nI n) = nI (pb (n % 256) + pb (n / 256 % 256) + pb (n / 65536)) := by
  have ha : n % 256 < 256 := by omega
  have hb : n / 256 % 256 < 256 := by omega
  have hc : n / 65536 < 256 := by omega
  have hn : n = n % 256 + 256 * (n / 256 % 256 + 256 * (n / 65536)) := by omega
  generalize n % 256 = a at ha hn ⊢
  generalize n / 256 % 256 = b at hb hn ⊢
  generalize n / 65536 = c at hc hn ⊢
  obtain ⟨a1, a2, a3, a4⟩ := t_bd a ha
  obtain ⟨b1', b2, b3, b4⟩ := t_bd b hb
  obtain ⟨c1, c2, c3, c4⟩ := t_bd c hc
  have h1 : pc1 n = t1 a + 256 * (t1 b + 256 * t1 c) := by rw [hn]; exact p1_s ha hb hc
  have h2 : pc2 (pc1 n) = t2 (t1 a) + 256 * (t2 (t1 b) + 256 * t2 (t1 c)) := by rw [h1]; exact p2_s a3 b3 c3
  have h3 : pc3 (pc2 (pc1 n)) = pb a + 256 * (pb b + 256 * pb c) := by rw [h2, p3_s a1 b1' c1 b2 c2, t_pb a ha, t_pb b hb, t_pb c hc]
  have h4 : pc4 (pc3 (pc2 (pc1 n))) < 2 ^ 32 := by rw [h3, pc4]; omega
  rw [f_J6_bitCount_0f7a4, bc1_n (by omega), bc2_n (by rw [h1]; omega), bc3_n (by rw [h2]; omega), bc4_n (by rw [h3]; omega), bc5_n h4]
  show nI (pc5 (pc4 (pc3 (pc2 (pc1 n))))) &&& nI 63 = _
  rw [nx_and, h3, p45_s a4 b4 c4]
theorem sm_split {f : Nat → Nat} {m : Nat} : ∀ n : Nat, sm f (m + n) = sm f m + sm (fun k => f (m + k)) n
  | 0 => rfl
  | n + 1 => by
    show sm f (m + n) + f (m + n) = sm f m + (sm (fun k => f (m + k)) n + f (m + n))
    rw [sm_split n, Nat.add_assoc]
/-- the bits of a set, counted -/
def cn (x : Int32) : Nat := sm (fun k => b1 (bt x k)) 24
theorem bt_n {n : Nat} (h : n < 2 ^ 32) (k : Nat) : bt (nI n) k = n.testBit k := by
  show (nI n).toBitVec.toNat.testBit k = n.testBit k
  rw [pk_tn h]
theorem cn_n {n : Nat} (h : n < 2 ^ 24) : cn (nI n) = pb (n % 256) + pb (n / 256 % 256) + pb (n / 65536) := by
  have h0 : cn (nI n) = sm (fun k => b1 (n.testBit k)) ((8 + 8) + 8) := sm_cong (fun k _ => by rw [bt_n (by omega)])
  rw [h0, sm_split, sm_split, pb, pb, pb]
  have e1 : sm (fun k => b1 (n.testBit k)) 8 = sm (fun k => b1 ((n % 256).testBit k)) 8 := sm_cong (fun k hk => by
    rw [show (256 : Nat) = 2 ^ 8 from rfl, Nat.testBit_mod_two_pow, decide_eq_true hk, Bool.true_and])
  have e2 : sm (fun k => b1 (n.testBit (8 + k))) 8 = sm (fun k => b1 ((n / 256 % 256).testBit k)) 8 := sm_cong (fun k hk => by
    rw [show (256 : Nat) = 2 ^ 8 from rfl, Nat.testBit_mod_two_pow, decide_eq_true hk, Bool.true_and, Nat.testBit_div_two_pow, Nat.add_comm])
  have e3 : sm (fun k => b1 (n.testBit (8 + 8 + k))) 8 = sm (fun k => b1 ((n / 65536).testBit k)) 8 := sm_cong (fun k hk => by
    rw [show (65536 : Nat) = 2 ^ 16 from rfl, Nat.testBit_div_two_pow, Nat.add_comm])
  rw [e1, e2, e3]
theorem b_of (x : Int32) : x = nI x.toBitVec.toNat := by
  apply Int32.toBitVec_inj.mp
  show x.toBitVec = BitVec.ofNat 32 x.toBitVec.toNat
  apply BitVec.eq_of_toNat_eq
  rw [BitVec.toNat_ofNat, Nat.mod_eq_of_lt x.toBitVec.isLt]
theorem c_bitc {x : Int32} (h : ∀ i, 24 ≤ i → bt x i = false) : f_J6_bitCount_0f7a4 x = nI (cn x) := by
  have hn : x.toBitVec.toNat < 2 ^ 24 := Nat.lt_pow_two_of_testBit _ (fun i hi => h i hi)
  rw [b_of x]
  generalize x.toBitVec.toNat = n at hn
  rw [bc_n hn, cn_n hn]
