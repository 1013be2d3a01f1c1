/-! The class's pack. -/
theorem s_count (n : Int32) : f_Row_count n = some n := rfl
def ChOK (D : Nat → Nat) (k c : Nat) (la ea : Nat → Int32) : Prop := Chain (slotN D) c la ea ∧ (c = 0 ∨ c + 3 ≤ k)
theorem lastq_congr {s1 s2 : Nat → Nat} (s : Nat) : ∀ c, (∀ q, q < c → s1 q = s2 q) → lastq s1 s c = lastq s2 s c := by
  intro c
  induction c with
  | zero => intro _; rfl
  | succ c ih => intro h; rw [lastq_s, lastq_s, h c (by omega), ih (fun q hq => h q (by omega))]
theorem slotN_congr {D E : Nat → Nat} {q : Nat} (h : ∀ i, i < 4 → D (q + i) = E (q + i)) : slotN D q = slotN E q := by
  have w : W4 D q = W4 E q := by
    unfold W4
    rw [show D q = E q from h 0 (by decide), h 1 (by decide), h 2 (by decide), h 3 (by decide)]
  unfold slotN
  rw [w]
theorem Chain.congr {s1 s2 : Nat → Nat} {c : Nat} {la ea : Nat → Int32} (h : Chain s1 c la ea) (e : ∀ q, q < c → s1 q = s2 q) : Chain s2 c la ea := by
  refine ⟨fun s hs => ?_, fun q hq => ?_⟩
  · rw [h.1 s hs, lastq_congr s c e]
  · rw [h.2 q hq, e q hq, lastq_congr _ q (fun i hi => e i (by omega))]
theorem ChOK.data {D E : Nat → Nat} {k k' c : Nat} {la ea : Nat → Int32} (h : ChOK D k c la ea) (hk : k ≤ k') (e : ∀ j, j < k → D j = E j) : ChOK E k' c la ea := by
  rcases h.2 with h0 | h0
  · refine ⟨h.1.congr (fun q hq => by omega), Or.inl h0⟩
  · exact ⟨h.1.congr (fun q hq => slotN_congr (fun i hi => e (q + i) (by omega))), Or.inr (by omega)⟩
def POut (D : Nat → Nat) (k : Nat) (dn : Int32) (df : Nat → Int32) (R : Sq) (res : Option (Int32 × Int32 × Int32 × Int32 × Int32 × (Nat → Int32) × (Nat → Int32) × (Nat → Int32) × Int32 × (Nat → Int32))) : Prop :=
  ∃ (c' : Nat) (ms' ml' : Int32) (la' ea' : Nat → Int32), ChOK D k c' la' ea' ∧ ((R.1 ≤ 8000 ∧ ∃ f', res = some (1, nI c', ms', ml', dn, df, la', ea', nI R.1, f') ∧ Rw 8000 R.1 (nI R.1) f' R.2) ∨ (8000 < R.1 ∧ ∃ (k' : Nat) (n' : Int32) (f' : Nat → Int32) (B' : Nat → Nat), res = some (0, nI c', ms', ml', dn, df, la', ea', n', f') ∧ Rw 8000 k' n' f' B'))
theorem loop9_s {α β γ δ ε ζ η θ ι ρ : Type} (b : (α → β → γ → δ → ε → ζ → η → θ → ι → Option ρ) → α → β → γ → δ → ε → ζ → η → θ → ι → Option ρ) (n : Nat) (x1 : α) (x2 : β) (x3 : γ) (x4 : δ) (x5 : ε) (x6 : ζ) (x7 : η) (x8 : θ) (x9 : ι) : loop9 b (n + 1) x1 x2 x3 x4 x5 x6 x7 x8 x9 = b (loop9 b n) x1 x2 x3 x4 x5 x6 x7 x8 x9 := rfl
theorem raw_src (D : Nat → Nat) (n p way : Nat) : (rawN D n p way).1 = 0 ∨ (rawN D n p way).2 < p := mfind_src p (0, 0) (Or.inl rfl) (Nat.le_refl _)
theorem pack_end {N k : Nat} (hN : 20000 < N) {dn : Int32} {df : Nat → Int32} {D : Nat → Nat} (hD : Rw 16000 k dn df D) {x4 x7 x8 x10 : Int32} (hx : x8 < x10) (kh) {a c : Nat} {s : Sq} {tn : Int32} {tf : Nat → Int32} {ms ml : Int32} {la ea : Nat → Int32} (ha : a ≤ k) (hT : Rw 8000 s.1 tn tf s.2) (hC : ChOK D k c la ea) : POut D k dn df (litS D a k 0 s) (b_BW_pack_51 N x4 x7 x8 dn df kh (nI a) x10 (nI c) ms ml la ea tn tf) := by
  rw [b_BW_pack_51, if_pos hx, bd1_of (x1 := nI k) (by rw [hD.1]; rfl)]
  rcases o_litS hN hT hD (a := a) (b := k) (v := 0) ha (Nat.le_refl _) (Nat.zero_le _) with ⟨h1, f', e, h2⟩ | ⟨h1, k', n', f', B', e, h2⟩
  · have e : f_BW_addLiterals N (nI a) (nI k) 0 dn df tn tf = some (1, nI (litS D a k 0 s).1, f') := e
    rw [bd3_of e, as_of (z_ok 1 (Or.inr rfl))]
    exact ⟨c, ms, ml, la, ea, hC, Or.inl ⟨h1, f', rfl, h2⟩⟩
  · have e : f_BW_addLiterals N (nI a) (nI k) 0 dn df tn tf = some (0, n', f') := e
    rw [bd3_of e, as_of (z_ok 0 (Or.inl rfl))]
    exact ⟨c, ms, ml, la, ea, hC, Or.inr ⟨h1, k', n', f', B', rfl, h2⟩⟩
theorem pack_loop {N k way : Nat} (hN : 20000 < N) (hw : way ≤ 3) {dn : Int32} {df : Nat → Int32} {D : Nat → Nat} (hD : Rw 16000 k dn df D) (hk12 : 12 ≤ k) : ∀ (m fuel F a p c : Nat) (s : Sq) (tn : Int32) (tf : Nat → Int32) (ms ml : Int32) (la ea : Nat → Int32), k + 1 - p ≤ m → m < fuel → m < F → a ≤ p → p ≤ k → c ≤ p → Rw 8000 s.1 tn tf s.2 → ChOK D k c la ea → POut D k dn df (blk D k way F a p s) (loop9 (b_BW_pack_51 N (nI way) (nI (k - 5)) (nI (k - 12)) dn df) fuel (nI a) (nI p) (nI c) ms ml la ea tn tf) := by
  have hk := hD.2.1
  intro m
  induction m with
  | zero => intro fuel F a p c s tn tf ms ml la ea h1 h2 h3 h4 h5; omega
  | succ m ih =>
    intro fuel F a p c s tn tf ms ml la ea h1 h2 h3 hap hpk hcp hT hC
    obtain ⟨fuel, rfl⟩ : ∃ z, fuel = z + 1 := ⟨fuel - 1, by omega⟩
    obtain ⟨F, rfl⟩ : ∃ z, F = z + 1 := ⟨F - 1, by omega⟩
    rw [loop9_s, blk_s]
    by_cases c0 : k < p + 12
    · rw [if_pos c0]
      exact pack_end hN hD (nI_lt (by omega) (by omega)) _ (by omega) hT hC
    · rw [if_neg c0, b_BW_pack_51, if_neg (nI_nlt (by omega) (by omega))]
      obtain ⟨c', ms', ml', la', ea', e1, C1, hc', hms⟩ := s_look hN hD (p := p) (c := c) hw (by omega) hcp hC.1
      have hC' : ChOK D k c' la' ea' := ⟨C1, Or.inr (by omega)⟩
      obtain ⟨v1, v2, v3⟩ := lookN_inv D k p way
      rw [bd6_of e1]
      by_cases l0 : lookN D k p way = 0
      · rw [if_pos l0, l0, if_pos (by decide), j_BW_pack_130, show nI p + mx 1 (nI 0) = nI (p + 1) from nI_1 p]
        exact ih fuel F a (p + 1) c' s tn tf ms' ml' la' ea' (by omega) (by omega) (by omega) (by omega) (by omega) hc' hT hC'
      · rw [if_neg l0, if_neg (show ¬ nI (lookN D k p way) ≤ 0 from nI_nle (by omega) (by omega)), show nI (lookN D k p way) - (4 : Int32) = nI (lookN D k p way - 4) from pk_sub (by omega : 4 ≤ lookN D k p way)]
        have hsrc : (rawN D k p way).2 < p := (raw_src D k p way).resolve_left (by rw [← v3 l0]; exact l0)
        have hR1 := blk_le D k way F (p + lookN D k p way) (p + lookN D k p way) (cpyS (p - (rawN D k p way).2) (lookN D k p way - 4) (litS D a p (lookN D k p way - 4) s))
        have hR2 := cpyS_le (p - (rawN D k p way).2) (lookN D k p way - 4) (litS D a p (lookN D k p way - 4) s)
        rcases o_litS hN hT hD (a := a) (b := p) (v := lookN D k p way - 4) hap (by omega) (by omega) with ⟨h6, f', e, h7⟩ | ⟨h6, k', n', f', B', e, h7⟩
        · rw [bd3_of e, if_neg (by decide)]
          unfold f_Mat_source
          rw [j_Mat_source_0, bd1_of rfl, hms l0, pk_sub (by omega)]
          rcases o_cpyS hN h7 (d := p - (rawN D k p way).2) (v := lookN D k p way - 4) (by omega) (by omega) with ⟨h8, f2, e2, h9⟩ | ⟨h8, k2, n2, f2, B2, e2, h9⟩
          · rw [bd3_of e2, if_neg (by decide), j_BW_pack_130, nI_add, show mx 1 (nI (lookN D k p way)) = nI (lookN D k p way) from by unfold mx; rw [if_pos (show (1 : Int32) < nI _ from nI_lt (a := 1) (by omega) (by omega))], nI_add]
            exact ih fuel F _ _ c' _ _ _ _ ml' la' ea' (by omega) (by omega) (by omega) (by omega) (by omega) (by omega) h9 hC'
          · rw [bd3_of e2, if_pos rfl]
            exact ⟨c', _, ml', la', ea', hC', Or.inr ⟨by omega, k2, n2, f2, B2, rfl, h9⟩⟩
        · rw [bd3_of e, if_pos rfl]
          exact ⟨c', ms', ml', la', ea', hC', Or.inr ⟨by omega, k', n', f', B', rfl, h7⟩⟩
/-- the block that is written for bytes behind h others, n in all -/
def blockOf (D : Nat → Nat) (h n way : Nat) : Sq := blk D n way 20001 h h (0, fun _ => 0)
theorem s_pack {N kd kg way c a b : Nat} (hN : 20010 < N) (hw : way ≤ 3) {dn gn tn ms ml : Int32} {df gf tf la ea : Nat → Int32} {D G T : Nat → Nat} (hD : Rw 16000 kd dn df D) (hG : Rw 8000 kg gn gf G) (hab : a ≤ b) (hb : b ≤ kg) (hr : kd + (b - a) ≤ 16000) (hT : Rw 8000 0 tn tf T) (hC : ChOK D kd c la ea) (hcd : c ≤ kd) : ∃ df', Rw 16000 (kd + (b - a)) (nI (kd + (b - a))) df' (catB D kd G a) ∧ POut (catB D kd G a) (kd + (b - a)) (nI (kd + (b - a))) df' (blockOf (catB D kd G a) kd (kd + (b - a)) way) (f_BW_pack N (nI a) (nI b) (nI way) (nI c) ms ml dn df la ea gn gf tn tf) := by
  obtain ⟨df', e, h1⟩ := s_addFrom hD hG hab hb hr
  refine ⟨df', h1, ?_⟩
  have hC' : ChOK (catB D kd G a) (kd + (b - a)) c la ea := hC.data (by omega) (fun j hj => by unfold catB; rw [if_pos hj])
  have hT' : Rw 8000 0 tn tf (fun _ => 0) := hT.congr (fun j hj => by omega)
  unfold f_BW_pack
  rw [j_BW_pack_0, bd1_of (s_count _), bd3_of e, if_neg (by decide), bd1_of (s_count _), bd1_of (s_count _), hD.1]
  unfold blockOf
  have hkk : kd ≤ kd + (b - a) := Nat.le_add_right _ _
  generalize kd + (b - a) = k at *
  by_cases c12 : 12 ≤ k
  · rw [show nI k - (5 : Int32) = nI (k - 5) from pk_sub (by omega : 5 ≤ k), show nI k - (12 : Int32) = nI (k - 12) from pk_sub c12]
    exact pack_loop (by omega) hw h1 c12 (k + 1 - kd) N 20001 kd kd c (0, fun _ => 0) tn tf ms ml la ea (Nat.le_refl _) (by omega) (by omega) (Nat.le_refl _) (by have := h1.2.1; omega) hcd hT' hC'
  · obtain ⟨M, rfl⟩ : ∃ M, N = M + 1 := ⟨N - 1, by omega⟩
    rw [loop9_s, show (20001 : Nat) = 20000 + 1 from rfl, blk_s, if_pos (by omega)]
    refine pack_end (by omega) h1 ?_ _ (by have := h1.2.1; omega) hT' hC'
    have a1 : nI k - (12 : Int32) < 0 := pk_sneg (b := 12) (by decide) (by omega)
    exact Int32.lt_of_lt_of_le a1 (nI_pos' (by have := hD.2.1; omega))
