/-! The model's writing of a block. -/
/-- the model's part (or made): what is said, its first 9000 bytes kept -/
def Mp (s : Sq) (n : Int32) (f : Nat → Int32) : Prop := n = nI s.1 ∧ ∀ j, j < s.1 → j < 9000 → s.2 j < 256 ∧ f j = nI (s.2 j)
theorem Mp.congr {s t : Sq} {n : Int32} {f : Nat → Int32} (h : Mp s n f) (e1 : s.1 = t.1) (e2 : ∀ j, j < s.1 → s.2 j = t.2 j) : Mp t n f := ⟨by rw [← e1]; exact h.1, fun j hj h9 => by rw [← e2 j (by omega)]; exact h.2 j (by omega) h9⟩
theorem upd_push {s : Sq} {n : Int32} {f : Nat → Int32} (h : Mp s n f) {v : Nat} (hv : v < 256) : Mp (push s v) (nI (s.1 + 1)) (upd f s.1 (nI v)) := by
  refine ⟨rfl, fun j hj h9 => ?_⟩
  have hj : j < s.1 + 1 := hj
  show updB s.2 s.1 v j < 256 ∧ upd f s.1 (nI v) j = nI (updB s.2 s.1 v j)
  unfold updB upd
  by_cases e : j = s.1
  · rw [if_pos e, if_pos e]; exact ⟨hv, rfl⟩
  · rw [if_neg e, if_neg e]; exact h.2 j (by omega) h9
theorem m_say {s : Sq} {n : Int32} {f : Nat → Int32} (h : Mp s n f) (hs : s.1 < 1000000) {v : Nat} (hv : v < 256) : ∃ f', f_Mo_say (nI v) n f = some (nI (s.1 + 1), f') ∧ Mp (push s v) (nI (s.1 + 1)) f' := by
  obtain ⟨rfl, h2⟩ := id h
  unfold f_Mo_say
  rw [j_Mo_say_0]
  by_cases c : s.1 < 9000
  · refine ⟨upd f s.1 (nI v), ?_, upd_push h hv⟩
    rw [if_neg (show ¬ (9000 : Int32) ≤ nI s.1 from nI_ge (b := 9000) c (by decide)), as_of (vp_in_nI c (by decide)), j_Mo_say_20, nI_clamp (by omega), nI_1]
  · refine ⟨f, ?_, rfl, fun j hj h9 => ?_⟩
    · rw [if_pos (show (9000 : Int32) ≤ nI s.1 from nI_le (a := 9000) (by omega) (by omega)), j_Mo_say_20, nI_1]
    · have hj : j < s.1 + 1 := hj
      show updB s.2 s.1 v j < 256 ∧ f j = nI (updB s.2 s.1 v j)
      unfold updB
      rw [if_neg (by omega)]
      exact h2 j (by omega) h9
theorem added_loop : ∀ (q fuel v : Nat) (s : Sq) (n : Int32) (f : Nat → Int32), v / 255 = q → v ≤ 16000 → q < fuel → s.1 + q < 900000 → Mp s n f → ∃ f', loop3 b_Mo_added_5 fuel (nI v) n f = some (nI (push (rep 255 q s) (v % 255)).1, f') ∧ Mp (push (rep 255 q s) (v % 255)) (nI (push (rep 255 q s) (v % 255)).1) f' := by
  intro q
  induction q with
  | zero =>
    intro fuel v s n f hv h16 hf hs h
    obtain ⟨fuel, rfl⟩ : ∃ z, fuel = z + 1 := ⟨fuel - 1, by omega⟩
    obtain ⟨f', e, g⟩ := m_say h (by omega) (v := v) (by omega)
    refine ⟨f', ?_, ?_⟩
    · rw [loop3_s, b_Mo_added_5, if_pos (show nI v < 255 from nI_lt (b := 255) (by omega) (by decide)), if_neg (nI_pos (by omega)), bd2_of e, rep_0]
      rfl
    · rw [rep_0, show v % 255 = v from by omega]; exact g
  | succ q ih =>
    intro fuel v s n f hv h16 hf hs h
    obtain ⟨fuel, rfl⟩ : ∃ z, fuel = z + 1 := ⟨fuel - 1, by omega⟩
    obtain ⟨f', e, g⟩ := m_say h (by omega) (v := 255) (by decide)
    have e : f_Mo_say 255 n f = some (nI (s.1 + 1), f') := e
    obtain ⟨f2, e2, g2⟩ := ih fuel (v - 255) (push s 255) (nI (s.1 + 1)) f' (by omega) (by omega) (by omega) (by show s.1 + 1 + q < 900000; omega) g
    rw [show (v - 255) % 255 = v % 255 from by omega] at e2 g2
    refine ⟨f2, ?_, by rw [rep_s]; exact g2⟩
    rw [loop3_s, b_Mo_added_5, if_neg (show ¬ nI v < 255 from nI_nlt (b := 255) (by omega) (by omega)), bd2_of e, show nI v + (-255 : Int32) = nI (v - 255) from by rw [← Int32.sub_eq_add_neg]; exact pk_sub (by omega : 255 ≤ v), e2, rep_s]
theorem m_added {N : Nat} (hN : 20000 < N) {s : Sq} {n : Int32} {f : Nat → Int32} (h : Mp s n f) (hs : s.1 < 800000) {v : Nat} (hv : v ≤ 16000) : ∃ f', f_Mo_added N (nI v) n f = some (nI (grow v s).1, f') ∧ Mp (grow v s) (nI (grow v s).1) f' := by
  unfold f_Mo_added grow
  rw [j_Mo_added_0]
  by_cases c : v < 15
  · rw [if_pos c]
    obtain ⟨N, rfl⟩ : ∃ z, N = z + 1 := ⟨N - 1, by omega⟩
    have lt : nI v - (15 : Int32) < 0 := pk_sneg (b := 15) (by decide) c
    refine ⟨f, ?_, by have := h.1; rw [this] at h; exact h⟩
    have l2 : nI v - (15 : Int32) < 255 := Int32.lt_of_lt_of_le lt (by decide)
    rw [loop3_s, b_Mo_added_5, if_pos l2, if_pos lt, h.1]
  · rw [if_neg c, show nI v - (15 : Int32) = nI (v - 15) from pk_sub (by omega : 15 ≤ v)]
    exact added_loop ((v - 15) / 255) N (v - 15) s n f rfl (by omega) (by omega) (by omega) h
/-- the end of a sequence: what comes behind the literals -/
def tailQ (len d : Nat) (s : Sq) : Sq := if len = 0 then s else cpyS d (len - 4) s
theorem seq_loop {N k : Nat} (hN : 20000 < N) {wdf : Nat → Int32} {D : Nat → Nat} (hD : Ma 16000 k wdf D) {b len d : Nat} (hb : b ≤ k) (hlen : len = 0 ∨ 4 ≤ len) (hl16 : len ≤ 16000) (hd : d ≤ 16000) : ∀ (m fuel i : Nat) (s : Sq) (n : Int32) (f : Nat → Int32), i + m = b → m < fuel → s.1 + m < 700000 → Mp s n f → ∃ f', loop3 (b_Mo_sequence_63 N (nI b) (nI len) (nI d) (nI len - 4) wdf) fuel (nI i) n f = some (nI (tailQ len d (lits D i b s)).1, f') ∧ Mp (tailQ len d (lits D i b s)) (nI (tailQ len d (lits D i b s)).1) f' := by
  obtain ⟨h1, h2, h3⟩ := hD
  intro m
  induction m with
  | zero =>
    intro fuel i s n f hi hf hs h
    obtain ⟨fuel, rfl⟩ : ∃ z, fuel = z + 1 := ⟨fuel - 1, by omega⟩
    rw [loop3_s, b_Mo_sequence_63, if_pos (nI_le (by omega) (by omega))]
    have h' : Mp (lits D i b s) n f := h.congr (by show s.1 = s.1 + (b - i); omega) (fun j hj => by show s.2 j = catB s.2 s.1 D i j; unfold catB; rw [if_pos hj])
    have hc : (lits D i b s).1 < 700000 := by show s.1 + (b - i) < 700000; omega
    generalize lits D i b s = t at h' hc ⊢
    unfold tailQ
    by_cases l0 : len = 0
    · rw [if_pos l0, if_pos (show nI len = 0 from by rw [l0]; rfl)]
      obtain ⟨rfl, -⟩ := id h'
      exact ⟨f, rfl, h'⟩
    · rw [if_neg l0, if_neg (show ¬ nI len = 0 from nI_ne0 (by omega) (by omega)), show nI d / (256 : Int32) = nI (d / 256) from pk_div (d := 256) (by omega) (by decide) (by decide), show nI (d / 256) * (256 : Int32) = nI (d / 256 * 256) from pk_mul _ 256, pk_sub (by omega), show d - d / 256 * 256 = d % 256 from by omega]
      obtain ⟨f1, e1, g1⟩ := m_say h' (by omega) (v := d % 256) (by omega)
      obtain ⟨f2, e2, g2⟩ := m_say g1 (by show t.1 + 1 < _; omega) (v := d / 256) (by omega)
      obtain ⟨f3, e3, g3⟩ := m_added hN g2 (by show t.1 + 1 + 1 < _; omega) (v := len - 4) (by omega)
      have e3 : f_Mo_added N (nI (len - 4)) (nI ((push t (d % 256)).1 + 1)) f2 = some (nI (cpyS d (len - 4) t).1, f3) := e3
      rw [bd2_of e1, bd2_of e2, show nI len - (4 : Int32) = nI (len - 4) from pk_sub (by omega : 4 ≤ len), bd2_of e3]
      exact ⟨f3, rfl, g3⟩
  | succ m ih =>
    intro fuel i s n f hi hf hs h
    obtain ⟨fuel, rfl⟩ : ∃ z, fuel = z + 1 := ⟨fuel - 1, by omega⟩
    obtain ⟨a0, b0⟩ := h3 i (by omega)
    obtain ⟨f1, e1, g1⟩ := m_say h (by omega) (v := D i) a0
    rw [loop3_s, b_Mo_sequence_63, if_neg (nI_ge (by omega) (by omega)), as_of (vp_in_nI (by omega) (by decide)), nI_clamp (by omega), b0, bd2_of e1, nI_1]
    obtain ⟨f2, e2, g2⟩ := ih fuel (i + 1) (push s (D i)) (nI (s.1 + 1)) f1 (by omega) (by omega) (by show s.1 + 1 + m < _; omega) g1
    have el : lits D (i + 1) b (push s (D i)) = lits D i b s := by
      unfold lits
      refine Prod.ext (by show s.1 + 1 + (b - (i + 1)) = s.1 + (b - i); omega) ?_
      funext j
      show catB (updB s.2 s.1 (D i)) (s.1 + 1) D (i + 1) j = catB s.2 s.1 D i j
      unfold catB updB
      by_cases x : j < s.1
      · rw [if_pos (by omega), if_neg (by omega), if_pos x]
      · by_cases y : j = s.1
        · subst y; rw [if_pos (by omega), if_pos rfl, if_neg (by omega)]; congr 1; omega
        · rw [if_neg (by omega), if_neg x]; congr 1; omega
    rw [el] at e2 g2
    exact ⟨f2, e2, g2⟩
theorem m_seq {N k : Nat} (hN : 20000 < N) {wdf : Nat → Int32} {D : Nat → Nat} (hD : Ma 16000 k wdf D) {a b len d : Nat} (hab : a ≤ b) (hb : b ≤ k) (hlen : len = 0 ∨ 4 ≤ len) (hl16 : len ≤ 16000) (hd : d ≤ 16000) {s : Sq} {n : Int32} {f : Nat → Int32} (hs : s.1 < 600000) (h : Mp s n f) : ∃ f', f_Mo_sequence N (nI a) (nI b) (nI len) (nI d) n wdf f = some (nI (tailQ len d (litS D a b (len - 4) s)).1, f') ∧ Mp (tailQ len d (litS D a b (len - 4) s)) (nI (tailQ len d (litS D a b (len - 4) s)).1) f' := by
  have hk := hD.1
  have hk2 := hD.2.1
  have key : ∀ t0 : Nat, t0 = min (len - 4) 15 → ∃ f', j_Mo_sequence_50 N (nI a) (nI b) (nI len) (nI d) (nI (b - a)) (nI len - 4) (nI t0) (nI (min (b - a) 15 * 16)) n wdf f = some (nI (tailQ len d (litS D a b (len - 4) s)).1, f') ∧ Mp (tailQ len d (litS D a b (len - 4) s)) (nI (tailQ len d (litS D a b (len - 4) s)).1) f' := by
    intro t0 ht
    obtain ⟨f1, e1, g1⟩ := m_say h (by omega) (v := min (b - a) 15 * 16 + t0) (by omega)
    obtain ⟨f2, e2, g2⟩ := m_added hN g1 (by show s.1 + 1 < _; omega) (v := b - a) (by omega)
    have hg : (grow (b - a) (push s (min (b - a) 15 * 16 + t0))).1 < 650000 := by
      unfold grow
      split
      · show s.1 + 1 < _; omega
      · show (rep 255 _ _).1 + 1 < _
        rw [rep_1]
        show s.1 + 1 + (b - a - 15) / 255 + 1 < _
        omega
    obtain ⟨f3, e3, g3⟩ := seq_loop hN hD hb hlen hl16 hd (b - a) N a _ _ f2 (by omega) (by omega) (by omega) g2
    refine ⟨f3, ?_, ?_⟩
    · rw [j_Mo_sequence_50, nI_add, bd2_of e1]
      have e2 : f_Mo_added N (nI (b - a)) (nI (s.1 + 1)) f1 = some (nI (grow (b - a) (push s (min (b - a) 15 * 16 + t0))).1, f2) := e2
      rw [bd2_of e2, e3]
      unfold litS
      rw [ht]
    · rw [ht] at g3; exact g3
  have key2 : ∃ f', j_Mo_sequence_25 N (nI a) (nI b) (nI len) (nI d) (nI (b - a)) (nI len - 4) (nI (min (b - a) 15)) n wdf f = some (nI (tailQ len d (litS D a b (len - 4) s)).1, f') ∧ Mp (tailQ len d (litS D a b (len - 4) s)) (nI (tailQ len d (litS D a b (len - 4) s)).1) f' := by
    rw [j_Mo_sequence_25, show nI (min (b - a) 15) * (16 : Int32) = nI (min (b - a) 15 * 16) from pk_mul _ 16]
    by_cases l0 : len = 0
    · rw [if_pos (show nI len = 0 from by rw [l0]; rfl)]
      exact key 0 (by omega)
    · rw [if_neg (show ¬ nI len = 0 from nI_ne0 (by omega) (by omega))]
      have e4 : nI len - (4 : Int32) = nI (len - 4) := pk_sub (by omega : 4 ≤ len)
      by_cases c : len - 4 ≤ 15
      · rw [if_pos (show nI len - 4 ≤ 15 from by rw [e4]; exact nI_le (b := 15) c (by decide))]
        have := key (len - 4) (by omega)
        rw [e4] at this ⊢
        exact this
      · rw [if_neg (show ¬ nI len - 4 ≤ 15 from by rw [e4]; exact nI_ge (a := 15) (by omega) (by omega))]
        exact key 15 (by omega)
  unfold f_Mo_sequence
  rw [j_Mo_sequence_0, pk_sub hab]
  by_cases c : b - a ≤ 15
  · rw [if_pos (show nI (b - a) ≤ 15 from nI_le (b := 15) c (by decide))]
    have := key2
    rw [show min (b - a) 15 = b - a from by omega] at this
    exact this
  · rw [if_neg (show ¬ nI (b - a) ≤ 15 from nI_ge (a := 15) (by omega) (by omega))]
    have := key2
    rw [show min (b - a) 15 = 15 from by omega] at this
    exact this
