def bt (x : Int32) (i : Nat) : Bool := x.toBitVec.getLsbD i
theorem b_ext {x y : Int32} (h : ∀ i, i < 32 → bt x i = bt y i) : x = y := Int32.toBitVec_inj.mp (BitVec.eq_of_getLsbD_eq (fun i hi => h i hi))
theorem b_or (x y : Int32) (i : Nat) : bt (x ||| y) i = (bt x i || bt y i) := by unfold bt; rw [Int32.toBitVec_or, BitVec.getLsbD_or]
theorem b_and (x y : Int32) (i : Nat) : bt (x &&& y) i = (bt x i && bt y i) := by unfold bt; rw [Int32.toBitVec_and, BitVec.getLsbD_and]
theorem b_xor (x y : Int32) (i : Nat) : bt (x ^^^ y) i = (bt x i ^^ bt y i) := by unfold bt; rw [Int32.toBitVec_xor, BitVec.getLsbD_xor]
theorem b_big {x : Int32} {i : Nat} (h : 32 ≤ i) : bt x i = false := BitVec.getLsbD_of_ge _ _ h
theorem b_m1 : ∀ i, i < 32 → bt (-1) i = true := by decide +kernel
theorem b_0 (i : Nat) : bt 0 i = false := BitVec.getLsbD_zero
theorem s_l : ∀ n, n < 32 → ((nI n &&& 31).toBitVec.smod 32).toNat = n := by decide +kernel
theorem b_shl (n : Nat) (hn : n < 32) (x : Int32) {i : Nat} (hi : i < 32) : bt (x <<< (nI n &&& 31)) i = (decide (n ≤ i) && bt x (i - n)) := by
  unfold bt
  rw [Int32.toBitVec_shiftLeft]
  show (x.toBitVec <<< ((nI n &&& 31).toBitVec.smod 32).toNat).getLsbD i = _
  rw [s_l n hn, BitVec.getLsbD_shiftLeft]
  rcases Nat.lt_or_ge i n with h | h
  · simp [h, Nat.not_le.mpr h]
  · simp [hi, h, Nat.not_lt.mpr h]
theorem b_sshr (n : Nat) (hn : n < 32) (x : Int32) {i : Nat} (hi : i < 32) : bt (x >>> (nI n &&& 31)) i = if n + i < 32 then bt x (n + i) else bt x 31 := by
  unfold bt
  rw [Int32.toBitVec_shiftRight]
  show (x.toBitVec.sshiftRight ((nI n &&& 31).toBitVec.smod 32).toNat).getLsbD i = _
  rw [s_l n hn, BitVec.getLsbD_sshiftRight, BitVec.msb_eq_getLsbD_last]
  simp [hi]
theorem nx_and (a b : Nat) : nI a &&& nI b = nI (a &&& b) := by
  apply Int32.toBitVec_inj.1
  show BitVec.ofNat 32 a &&& BitVec.ofNat 32 b = BitVec.ofNat 32 (a &&& b)
  apply BitVec.eq_of_getLsbD_eq
  intro i hi
  simp [hi]
/-! ===== own rows: one bit; truth as an int; counted loops side by side ===== -/
theorem b_one (i : Nat) : bt 1 i = decide (i = 0) := by
  rcases Nat.lt_or_ge i 32 with h | h
  · exact (by decide +kernel : ∀ i, i < 32 → bt 1 i = decide (i = 0)) i h
  · rw [b_big h, decide_eq_false (by omega)]
theorem b_bit {c : Nat} (hc : c < 32) (j : Nat) : bt ((1 : Int32) <<< (nI c &&& 31)) j = decide (j = c) := by
  rcases Nat.lt_or_ge j 32 with h | h
  · rw [b_shl c hc 1 h, b_one, Bool.eq_iff_iff]
    simp only [Bool.and_eq_true, decide_eq_true_eq]
    omega
  · rw [b_big h, decide_eq_false (by omega)]
theorem b_nbit {c : Nat} (hc : c < 32) {j : Nat} (hj : j < 32) : bt (((1 : Int32) <<< (nI c &&& 31)) ^^^ (-1)) j = !decide (j = c) := by
  rw [b_xor, b_bit hc, b_m1 j hj, Bool.xor_true]
theorem t_and0 {s : Int32} {c : Nat} (hc : c < 32) : (s &&& ((1 : Int32) <<< (nI c &&& 31))) = 0 ↔ bt s c = false := by
  constructor
  · intro h
    have h2 : bt (s &&& ((1 : Int32) <<< (nI c &&& 31))) c = bt 0 c := by rw [h]
    rw [b_and, b_bit hc, b_0, decide_eq_true rfl, Bool.and_true] at h2
    exact h2
  · intro h
    apply b_ext
    intro i hi
    rw [b_and, b_bit hc, b_0]
    by_cases e : i = c
    · rw [e, h]; rfl
    · rw [decide_eq_false e, Bool.and_false]
theorem t_shrv {s : Int32} {c : Nat} (hc : c < 32) : ((s >>> (nI c &&& 31)) &&& 1) = if bt s c = true then 1 else 0 := by
  apply b_ext
  intro i hi
  rw [b_and, b_one]
  by_cases e : i = 0
  · rw [e, b_sshr c hc s (by decide), if_pos (by omega), Nat.add_zero, decide_eq_true rfl, Bool.and_true]
    cases h : bt s c
    · rw [if_neg (by decide), b_0]
    · rw [if_pos rfl, b_one]; rfl
  · rw [decide_eq_false e, Bool.and_false]
    cases h : bt s c
    · rw [if_neg (by decide), b_0]
    · rw [if_pos rfl, b_one, decide_eq_false e]
theorem t_shr1 {s : Int32} {c : Nat} (hc : c < 32) : ((s >>> (nI c &&& 31)) &&& 1) = 1 ↔ bt s c = true := by
  rw [t_shrv hc]
  cases bt s c
  · exact ⟨fun h => absurd h (by decide), fun h => absurd h (by decide)⟩
  · exact ⟨fun _ => rfl, fun _ => rfl⟩
def iB (b : Bool) : Int32 := if b = true then 1 else 0
theorem iB_0 {b : Bool} : iB b = 0 ↔ b = false := by
  cases b
  · exact ⟨fun _ => rfl, fun _ => rfl⟩
  · exact ⟨fun h => absurd h (by decide), fun h => absurd h (by decide)⟩
theorem ite_iB {α : Sort _} {b : Bool} {x y : α} : (if iB b = 0 then x else y) = (if b = true then y else x) := by
  cases b
  · rw [if_pos (show iB false = 0 from rfl), if_neg (by decide)]
  · rw [if_neg (show ¬ iB true = 0 by decide), if_pos rfl]
theorem iB_eq {a b : Bool} : iB a = iB b ↔ a = b := by
  cases a <;> cases b <;> decide
theorem iB_or {a b : Bool} : iB a ||| iB b = iB (a || b) := by cases a <;> cases b <;> decide
theorem iB_01 {b : Bool} : iB b = 0 ∨ iB b = 1 := by cases b; exact Or.inl rfl; exact Or.inr rfl
theorem it_cong {σ : Type} {f g : Nat → σ → σ} {s : σ} : ∀ {n : Nat}, (∀ i, i < n → ∀ x, f i x = g i x) → it f s n = it g s n
  | 0, _ => rfl
  | n + 1, h => by
    show f n (it f s n) = g n (it g s n)
    rw [it_cong (fun i hi => h i (Nat.lt_succ_of_lt hi)), h n (Nat.lt_succ_self n)]
theorem it_add {σ : Type} {f : Nat → σ → σ} {s : σ} {a : Nat} : ∀ b : Nat, it f s (a + b) = it (fun i => f (a + i)) (it f s a) b
  | 0 => rfl
  | b + 1 => by
    show f (a + b) (it f s (a + b)) = f (a + b) (it (fun i => f (a + i)) (it f s a) b)
    rw [it_add b]
theorem it_nest {σ : Type} {g : Nat → Nat → σ → σ} {s : σ} : ∀ m : Nat, it (fun a x => it (fun b y => g a b y) x 8) s m = it (fun n x => g (n / 8) (n % 8) x) s (8 * m)
  | 0 => rfl
  | m + 1 => by
    show it (fun b y => g m b y) (it (fun a x => it (fun b y => g a b y) x 8) s m) 8 = _
    rw [it_nest m, Nat.mul_add, Nat.mul_one, it_add (f := fun n x => g (n / 8) (n % 8) x) (s := s) (a := 8 * m) 8]
    refine it_cong (fun i hi x => ?_)
    show g m i x = g ((8 * m + i) / 8) ((8 * m + i) % 8) x
    rw [show (8 * m + i) / 8 = m by omega, show (8 * m + i) % 8 = i by omega]
theorem it_rel {σ τ : Type} {P : Nat → σ → τ → Prop} {f : Nat → σ → σ} {g : Nat → τ → τ} {s : σ} {t : τ} (h0 : P 0 s t) : ∀ {n : Nat}, (∀ i, i < n → ∀ x y, P i x y → P (i + 1) (f i x) (g i y)) → P n (it f s n) (it g t n)
  | 0, _ => h0
  | n + 1, h => h n (Nat.lt_succ_self n) _ _ (it_rel h0 (fun i hi => h i (Nat.lt_succ_of_lt hi)))
theorem it_inv {σ : Type} {P : Nat → σ → Prop} {f : Nat → σ → σ} {s : σ} (h0 : P 0 s) : ∀ {n : Nat}, (∀ i, i < n → ∀ x, P i x → P (i + 1) (f i x)) → P n (it f s n)
  | 0, _ => h0
  | n + 1, h => h n (Nat.lt_succ_self n) _ (it_inv h0 (fun i hi => h i (Nat.lt_succ_of_lt hi)))
theorem anyN_cong {p q : Nat → Bool} : ∀ {n : Nat}, (∀ i, i < n → p i = q i) → anyN p n = anyN q n
  | 0, _ => rfl
  | n + 1, h => by
    rw [anyN, anyN, anyN_cong (fun i hi => h i (Nat.lt_succ_of_lt hi)), h n (Nat.lt_succ_self n)]
theorem it_or {g : Nat → Int32 → Int32} {p : Nat → Bool} (b0 : Bool) : ∀ {n : Nat}, (∀ i, i < n → ∀ b, g i (iB b) = iB (b || p i)) → it g (iB b0) n = iB (b0 || anyN p n)
  | 0, _ => by rw [anyN, Bool.or_false]; rfl
  | n + 1, h => by
    show g n (it g (iB b0) n) = _
    rw [it_or b0 (fun i hi => h i (Nat.lt_succ_of_lt hi)), h n (Nat.lt_succ_self n), anyN, Bool.or_assoc]
/-! sums -/
def sm (f : Nat → Nat) : Nat → Nat
  | 0 => 0
  | n + 1 => sm f n + f n
theorem sm_cong {f g : Nat → Nat} : ∀ {n : Nat}, (∀ i, i < n → f i = g i) → sm f n = sm g n
  | 0, _ => rfl
  | n + 1, h => by rw [sm, sm, sm_cong (fun i hi => h i (Nat.lt_succ_of_lt hi)), h n (Nat.lt_succ_self n)]
theorem sm_add {f g : Nat → Nat} : ∀ n : Nat, sm (fun i => f i + g i) n = sm f n + sm g n
  | 0 => rfl
  | n + 1 => by rw [sm, sm, sm, sm_add n]; omega
theorem sm_z : ∀ n : Nat, sm (fun _ => 0) n = 0
  | 0 => rfl
  | n + 1 => by rw [sm, sm_z n]
theorem sm_swap {f : Nat → Nat → Nat} (m : Nat) : ∀ n : Nat, sm (fun i => sm (fun j => f i j) m) n = sm (fun j => sm (fun i => f i j) n) m
  | 0 => (sm_z m).symm
  | n + 1 => by
    rw [sm, sm_swap m n, ← sm_add]
    rfl
theorem sm_pos {f : Nat → Nat} {p : Nat → Bool} : ∀ {n : Nat}, (∀ i, i < n → (0 < f i ↔ p i = true)) → (0 < sm f n ↔ anyN p n = true)
  | 0, _ => ⟨fun h => absurd h (Nat.lt_irrefl 0), fun h => absurd (show false = true from h) (by decide)⟩
  | n + 1, h => by
    have h1 := sm_pos (f := f) (p := p) (n := n) (fun i hi => h i (Nat.lt_succ_of_lt hi))
    have h2 := h n (Nat.lt_succ_self n)
    rw [sm, anyN, Bool.or_eq_true, ← h1, ← h2]
    omega
theorem sm_le {f : Nat → Nat} {k : Nat} : ∀ {n : Nat}, (∀ i, i < n → f i ≤ k) → sm f n ≤ n * k
  | 0, _ => Nat.zero_le _
  | n + 1, h => by
    have h1 := sm_le (f := f) (k := k) (n := n) (fun i hi => h i (Nat.lt_succ_of_lt hi))
    have h2 := h n (Nat.lt_succ_self n)
    rw [sm, Nat.succ_mul]
    omega
theorem it_sm {g : Nat → Int32 → Int32} {q : Nat → Nat} (m : Nat) : ∀ {n : Nat}, (∀ i, i < n → ∀ m, g i (nI m) = nI (m + q i)) → it g (nI m) n = nI (m + sm q n)
  | 0, _ => rfl
  | n + 1, h => by
    show g n (it g (nI m) n) = _
    rw [it_sm m (fun i hi => h i (Nat.lt_succ_of_lt hi)), h n (Nat.lt_succ_self n), sm, Nat.add_assoc]
theorem ix_1 {r c : Nat} (hr : r < 24) (hc : c < 8) : ((nI r * 8) + nI c).toNatClampNeg = r * 8 + c := by
  rw [show (8 : Int32) = nI 8 from rfl, pk_mul, nI_add, nI_clamp (by omega)]
theorem ix_3 {k r c : Nat} (hk : k < 4) (hr : r < 24) (hc : c < 8) : (((192 : Int32) * nI k + 8 * nI r) + nI c).toNatClampNeg = 192 * k + 8 * r + c := by
  rw [show (8 : Int32) = nI 8 from rfl, show (192 : Int32) = nI 192 from rfl, pk_mul, pk_mul, nI_add, nI_add, nI_clamp (by omega)]
theorem ix_2 {k c : Nat} (hk : k < 4) (hc : c < 8) : ((8 : Int32) * nI k + nI c).toNatClampNeg = 8 * k + c := by
  rw [show (8 : Int32) = nI 8 from rfl, pk_mul, nI_add, nI_clamp (by omega)]
theorem ix_a {A : Int32} {a c : Nat} (hA : A = nI a) (ha : a < 10000) (hc : c < 10000) : (A + nI c).toNatClampNeg = a + c := by
  rw [hA, nI_add, nI_clamp (by omega)]
theorem cl8 {x : Int32} (h : vp_in x 8) : ∃ c, c < 8 ∧ x = nI c := vp_in_of h (by decide)
theorem cl24 {x : Int32} (h : vp_in x 24) : ∃ c, c < 24 ∧ x = nI c := vp_in_of h (by decide)
theorem I_0 : (0 : Int32) = nI 0 := rfl
theorem I_1 : (1 : Int32) = nI 1 := rfl
theorem I_2 : (2 : Int32) = nI 2 := rfl
theorem I_3 : (3 : Int32) = nI 3 := rfl
theorem J_2 : (2 : Int32) = nI 2 := rfl
theorem J_3 : (3 : Int32) = nI 3 := rfl
theorem J_7 : (7 : Int32) = nI 7 := rfl
theorem J_8 : (8 : Int32) = nI 8 := rfl
theorem J_16 : (16 : Int32) = nI 16 := rfl
theorem J_23 : (23 : Int32) = nI 23 := rfl
theorem J_24 : (24 : Int32) = nI 24 := rfl
theorem J_99 : (99 : Int32) = nI 99 := rfl

