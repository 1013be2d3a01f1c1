/-! A frame's row: the class. -/
def partS (fl way : Nat) (H : Nat → Nat) (kh : Nat) (G : Nat → Nat) (a b : Nat) : Sq := if nI fl &&& (32 : Int32) = 0 then blockOf (catB H kh G 0) (kh + a) (kh + b) way else blockOf (catB H kh G a) kh (kh + (b - a)) way
def bodyS (fl way : Nat) (H : Nat → Nat) (kh : Nat) (G : Nat → Nat) (a b : Nat) (s : Sq) : Sq := if (partS fl way H kh G a b).1 < b - a then lits (partS fl way H kh G a b).2 0 (partS fl way H kh G a b).1 (pushW s (partS fl way H kh G a b).1) else lits G a b (pushW s (2147483648 + (b - a)))
def rowS (fl way : Nat) (H : Nat → Nat) (kh : Nat) (G : Nat → Nat) (a b : Nat) (s : Sq) : Sq := if nI fl &&& (16 : Int32) = 0 then bodyS fl way H kh G a b s else pushW (bodyS fl way H kh G a b s) (vN (sumS (bodyS fl way H kh G a b s).2 (s.1 + 4) ((bodyS fl way H kh G a b s).1 - (s.1 + 4))))
/-- the class's data before the row that begins at a -/
def Dat (fl : Nat) (H : Nat → Nat) (kh : Nat) (G : Nat → Nat) (a : Nat) (mc dn : Int32) (df la ea : Nat → Int32) : Prop := ∃ kd D c, mc = nI c ∧ Rw 16000 kd dn df D ∧ kh ≤ kd ∧ (∀ j, j < kh → D j = H j) ∧ ChOK D kd c la ea ∧ c ≤ kd ∧ (nI fl &&& (32 : Int32) = 0 → kd = kh + a ∧ ∀ j, j < kd → D j = catB H kh G 0 j)
theorem cat_cat (H G : Nat → Nat) (kh a : Nat) : catB (catB H kh G 0) (kh + a) G a = catB H kh G 0 := by
  funext j
  unfold catB
  by_cases x : j < kh + a
  · rw [if_pos x]
  · rw [if_neg x, if_neg (by omega)]
    congr 1
    omega
theorem vN_hi {n : Nat} (h : n < 2 ^ 31) : vN (nI n ||| (-2147483648 : Int32)) = 2147483648 + n := by
  rw [vN_or, vN_nI, Nat.mod_eq_of_lt (by omega), show vN (-2147483648 : Int32) = 1 * 2 ^ 31 from by decide +kernel, or_add h]
  omega
theorem o_from8 {s : Sq} {n n2 : Int32} {f f2 : Nat → Int32} {k : Nat} {D : Nat → Nat} (h : Rw 8000 s.1 n f s.2) (g : Rw 8000 k n2 f2 D) {a b : Nat} (hab : a ≤ b) (hb : b ≤ k) : Out (lits D a b s) (f_Row_addFrom 8000 8000 (nI a) (nI b) n f n2 f2) := by
  by_cases c : s.1 + (b - a) ≤ 8000
  · obtain ⟨f', e, q⟩ := s_addFrom h g hab hb c
    exact Or.inl ⟨c, f', e, q⟩
  · exact Or.inr ⟨by show 8000 < s.1 + (b - a); omega, s.1, n, f, s.2, s_addFromN h g hab hb (by omega), h⟩
abbrev R12 : Type := Int32 × Int32 × (Nat → Int32) × Int32 × Int32 × Int32 × Int32 × (Nat → Int32) × (Nat → Int32) × (Nat → Int32) × Int32 × (Nat → Int32)
/-- an emitting step with the rest of the class's values beside it -/
def Out12 (s : Sq) (mc ms ml dn : Int32) (df la ea : Nat → Int32) (pkn : Int32) (pkf : Nat → Int32) (r : Option R12) : Prop := (s.1 ≤ 8000 ∧ ∃ f', r = some (1, nI s.1, f', mc, ms, ml, dn, df, la, ea, pkn, pkf) ∧ Rw 8000 s.1 (nI s.1) f' s.2) ∨ (8000 < s.1 ∧ ∃ (k' : Nat) (n' : Int32) (f' : Nat → Int32) (B' : Nat → Nat), r = some (0, n', f', mc, ms, ml, dn, df, la, ea, pkn, pkf) ∧ Rw 8000 k' n' f' B')
theorem row_162 {N fl : Nat} (hN : 20000 < N) {s b : Sq} {mc ms ml dn pkn : Int32} {df la ea pkf : Nat → Int32} (hsb : s.1 + 4 ≤ b.1) (t : Int32) (tn : Int32) (tf : Nat → Int32) (h : (t = 1 ∧ b.1 ≤ 8000 ∧ tn = nI b.1 ∧ Rw 8000 b.1 (nI b.1) tf b.2) ∨ (t = 0 ∧ 8000 < b.1 ∧ ∃ k' B', Rw 8000 k' tn tf B')) : Out12 (if nI fl &&& (16 : Int32) = 0 then b else pushW b (vN (sumS b.2 (s.1 + 4) (b.1 - (s.1 + 4))))) mc ms ml dn df la ea pkn pkf (j_FW_addRow_162 N (nI fl) (nI (s.1 + 4)) t tn tf mc ms ml dn df la ea pkn pkf) := by
  rw [j_FW_addRow_162]
  by_cases c : nI fl &&& (16 : Int32) = 0
  · rw [if_pos c, if_pos c]
    rcases h with ⟨rfl, h1, rfl, h2⟩ | ⟨rfl, h1, k', B', h2⟩
    · rw [as_of (z_ok 1 (Or.inr rfl))]; exact Or.inl ⟨h1, tf, rfl, h2⟩
    · rw [as_of (z_ok 0 (Or.inl rfl))]; exact Or.inr ⟨h1, k', tn, tf, B', rfl, h2⟩
  · rw [if_neg c, if_neg c]
    rcases h with ⟨rfl, h1, rfl, h2⟩ | ⟨rfl, h1, k', B', h2⟩
    · rw [if_neg (by decide), bd1_of (s_count _), bd1_of (s_sum hN h2 (a := s.1 + 4) (e := b.1) hsb (Nat.le_refl _))]
      rcases o_word h2 (sumS b.2 (s.1 + 4) (b.1 - (s.1 + 4))) with ⟨h3, f', e, g⟩ | ⟨h3, k', n', f', B', e, g⟩
      · rw [bd3_of e, if_neg (by decide)]; exact Or.inl ⟨h3, f', rfl, g⟩
      · rw [bd3_of e, if_pos rfl]; exact Or.inr ⟨h3, k', n', f', B', rfl, g⟩
    · rw [if_pos rfl]
      exact Or.inr ⟨by rw [pushW_1]; omega, k', tn, tf, B', rfl, h2⟩
theorem n10 : ¬ (1 : Int32) = 0 := by decide
theorem z00 : (0 : Int32) = 0 := rfl
theorem row_92 {N fl kg : Nat} (hN : 20000 < N) {a b : Nat} (hab : a ≤ b) (hb : b ≤ kg) {s P : Sq} {gn tn mc ms ml dn pkn : Int32} {gf tf df la ea pkf : Nat → Int32} {G : Nat → Nat} (hG : Rw 8000 kg gn gf G) (hT : Rw 8000 s.1 tn tf s.2) (sh : Bool) (hP : sh = true → pkn = nI P.1 ∧ Rw 8000 P.1 (nI P.1) pkf P.2) : Out12 (if nI fl &&& (16 : Int32) = 0 then (if sh = true then lits P.2 0 P.1 (pushW s P.1) else lits G a b (pushW s (2147483648 + (b - a)))) else pushW (if sh = true then lits P.2 0 P.1 (pushW s P.1) else lits G a b (pushW s (2147483648 + (b - a)))) (vN (sumS (if sh = true then lits P.2 0 P.1 (pushW s P.1) else lits G a b (pushW s (2147483648 + (b - a)))).2 (s.1 + 4) ((if sh = true then lits P.2 0 P.1 (pushW s P.1) else lits G a b (pushW s (2147483648 + (b - a)))).1 - (s.1 + 4))))) mc ms ml dn df la ea pkn pkf (j_FW_addRow_92 N (nI a) (nI b) (nI fl) (if sh = true then 1 else 0) (if sh = true then pkn else nI (b - a) ||| (-2147483648 : Int32)) gn gf tn tf mc ms ml dn df la ea pkn pkf) := by
  have hk := hG.2.1
  rw [j_FW_addRow_92]
  cases sh with
  | true =>
    obtain ⟨rfl, hP2⟩ := hP rfl
    have hP8 := hP2.2.1
    simp only [if_pos]
    have o1 := o_word hT (nI P.1)
    rw [vN_nI, Nat.mod_eq_of_lt (by omega)] at o1
    have lct : s.1 + 4 ≤ (lits P.2 0 P.1 (pushW s P.1)).1 := by show s.1 + 4 ≤ s.1 + 4 + _; omega
    rcases o1 with ⟨h1, f1, e1, g1⟩ | ⟨h1, k', n', f', B', e1, g1⟩
    · rw [bd3_of e1, bd1_of (s_count _), if_neg n10, if_neg n10, bd1_of (s_count _)]
      rcases o_from8 g1 hP2 (a := 0) (b := P.1) (Nat.zero_le _) (Nat.le_refl _) with ⟨h2, f2, e2, g2⟩ | ⟨h2, k', n', f', B', e2, g2⟩
      · have e2 : f_Row_addFrom 8000 8000 0 (nI P.1) (nI (pushW s P.1).1) f1 (nI P.1) pkf = _ := e2
        rw [bd3_of e2, if_neg n10, j_FW_addRow_157]
        exact row_162 hN lct 1 _ _ (Or.inl ⟨rfl, h2, rfl, g2⟩)
      · have e2 : f_Row_addFrom 8000 8000 0 (nI P.1) (nI (pushW s P.1).1) f1 (nI P.1) pkf = _ := e2
        rw [bd3_of e2, if_pos z00, j_FW_addRow_161]
        exact row_162 hN lct 0 _ _ (Or.inr ⟨rfl, h2, k', B', g2⟩)
    · rw [bd3_of e1, bd1_of (s_count _), if_pos z00, j_FW_addRow_161]
      have big : 8000 < (lits P.2 0 P.1 (pushW s P.1)).1 := by show 8000 < (pushW s P.1).1 + _; omega
      rw [j_FW_addRow_162]
      by_cases c : nI fl &&& (16 : Int32) = 0
      · rw [if_pos c, if_pos c, as_of (z_ok 0 (Or.inl rfl))]; exact Or.inr ⟨big, k', n', f', B', rfl, g1⟩
      · rw [if_neg c, if_neg c, if_pos rfl]; exact Or.inr ⟨by rw [pushW_1]; omega, k', n', f', B', rfl, g1⟩
  | false =>
    simp only [Bool.false_eq_true, if_false]
    have o1 := o_word hT (nI (b - a) ||| (-2147483648 : Int32))
    rw [vN_hi (by omega)] at o1
    have lct : s.1 + 4 ≤ (lits G a b (pushW s (2147483648 + (b - a)))).1 := by show s.1 + 4 ≤ s.1 + 4 + _; omega
    rcases o1 with ⟨h1, f1, e1, g1⟩ | ⟨h1, k', n', f', B', e1, g1⟩
    · rw [bd3_of e1, bd1_of (s_count _), if_neg n10, if_pos trivial]
      rcases o_from8 g1 hG hab hb with ⟨h2, f2, e2, g2⟩ | ⟨h2, k', n', f', B', e2, g2⟩
      · rw [bd3_of e2, if_neg n10, j_FW_addRow_157]
        exact row_162 hN lct 1 _ _ (Or.inl ⟨rfl, h2, rfl, g2⟩)
      · rw [bd3_of e2, if_pos z00, j_FW_addRow_161]
        exact row_162 hN lct 0 _ _ (Or.inr ⟨rfl, h2, k', B', g2⟩)
    · rw [bd3_of e1, bd1_of (s_count _), if_pos z00, j_FW_addRow_161]
      have big : 8000 < (lits G a b (pushW s (2147483648 + (b - a)))).1 := by show 8000 < (pushW s _).1 + _; omega
      rw [j_FW_addRow_162]
      by_cases c : nI fl &&& (16 : Int32) = 0
      · rw [if_pos c, if_pos c, as_of (z_ok 0 (Or.inl rfl))]; exact Or.inr ⟨big, k', n', f', B', rfl, g1⟩
      · rw [if_neg c, if_neg c, if_pos rfl]; exact Or.inr ⟨by rw [pushW_1]; omega, k', n', f', B', rfl, g1⟩
