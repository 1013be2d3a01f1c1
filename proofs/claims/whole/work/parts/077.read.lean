/-! The class's reading of a block. -/
theorem virt_congr {H T T' : Nat → Nat} {kh st v kt : Nat} (hv : v + st ≤ kh + kt) (h : ∀ j, j < kt → T j = T' j) : ∀ j, j < v → virt H kh T st j = virt H kh T' st j := by
  intro j hj
  unfold virt
  by_cases c : j < kh
  · rw [if_pos c, if_pos c]
  · rw [if_neg c, if_neg c]; exact h _ (by omega)
theorem To.count {H : Nat → Nat} {kh st k0 : Nat} {T0 : Nat → Nat} {v : Nat} {V : Nat → Nat} {tn : Int32} {tf : Nat → Int32} (h : To H kh st k0 T0 v V tn tf) : ∃ kt, tn = nI kt ∧ v + st = kh + kt ∧ kt ≤ 8000 ∧ st ≤ kt := by
  obtain ⟨kt, T, h1, h2, h3, h4, h5, h6⟩ := h
  exact ⟨kt, h1.1, h4, h1.2.1, by omega⟩
theorem To.congr {H : Nat → Nat} {kh st k0 : Nat} {T0 : Nat → Nat} {v : Nat} {V V' : Nat → Nat} {tn : Int32} {tf : Nat → Int32} (h : To H kh st k0 T0 v V tn tf) (e : ∀ j, j < v → V j = V' j) : To H kh st k0 T0 v V' tn tf := by
  obtain ⟨kt, T, h1, h2, h3, h4, h5, h6⟩ := h
  exact ⟨kt, T, h1, h2, h3, h4, fun j hj => by rw [← e j hj]; exact h5 j hj, h6⟩
theorem To.add {H : Nat → Nat} {kh st k0 : Nat} {T0 : Nat → Nat} {v : Nat} {V : Nat → Nat} {tn : Int32} {tf : Nat → Int32} (h : To H kh st k0 T0 v V tn tf) (hr : v + st < kh + 8000) (hb : V v < 256) : ∃ tn' tf', f_Row_add 8000 (nI (V v)) tn tf = some (1, tn', tf') ∧ To H kh st k0 T0 (v + 1) V tn' tf' := by
  obtain ⟨kt, T, h1, h2, h3, h4, h5, h6⟩ := h
  obtain ⟨e, g⟩ := s_add1 (nI (V v)) h1 (by omega)
  rw [lo8_nI hb] at e g
  refine ⟨_, _, e, kt + 1, _, g, by omega, h3, by omega, fun j hj => ?_, fun j hj => ?_⟩
  · by_cases c : j = v
    · subst c
      unfold virt updB
      rw [if_neg (by omega), if_pos (by omega)]
    · rw [h5 j (by omega)]
      exact virt_congr (v := v) (kt := kt) (by omega) (fun i hi => by unfold updB; rw [if_neg (by omega)]) j (by omega)
  · unfold updB; rw [if_neg (by omega)]; exact h6 j hj
theorem To.from {H G : Nat → Nat} {kh st k0 kg : Nat} {T0 : Nat → Nat} {v : Nat} {V : Nat → Nat} {tn gn : Int32} {tf gf : Nat → Int32} (h : To H kh st k0 T0 v V tn tf) (hG : Rw 8000 kg gn gf G) {a b : Nat} (hab : a ≤ b) (hb : b ≤ kg) (hr : v + (b - a) + st ≤ kh + 8000) : ∃ tn' tf', f_Row_addFrom 8000 8000 (nI a) (nI b) tn tf gn gf = some (1, tn', tf') ∧ To H kh st k0 T0 (v + (b - a)) (catB V v G a) tn' tf' := by
  obtain ⟨kt, T, h1, h2, h3, h4, h5, h6⟩ := h
  obtain ⟨f', e, g⟩ := s_addFrom h1 hG hab hb (by omega)
  refine ⟨_, _, e, kt + (b - a), _, g, by omega, h3, by omega, fun j hj => ?_, fun j hj => ?_⟩
  · unfold catB
    by_cases c : j < v
    · rw [if_pos c, h5 j c]
      exact virt_congr (v := v) (kt := kt) (by omega) (fun i hi => by rw [if_pos hi]) j c
    · rw [if_neg c]
      unfold virt
      rw [if_neg (by omega)]
      show G (a + (j - v)) = if st + (j - kh) < kt then T (st + (j - kh)) else G (a + (st + (j - kh) - kt))
      rw [if_neg (by omega)]
      congr 1
      omega
  · unfold catB; rw [if_pos (by omega)]; exact h6 j hj
theorem mn_nI {a b : Nat} (ha : a < 2 ^ 30) (hb : b < 2 ^ 30) : mn (nI a) (nI b) = nI (min a b) := by
  unfold mn
  by_cases c : b < a
  · rw [if_pos (nI_lt c (by omega)), show min a b = b from by omega]
  · rw [if_neg (nI_nlt (by omega) (by omega)), show min a b = a from by omega]
theorem s_takeLits {H G : Nat → Nat} {kh st k0 kg e most n j lim : Nat} {T0 : Nat → Nat} {v : Nat} {V : Nat → Nat} {tn gn bp : Int32} {tf gf : Nat → Int32} (h : To H kh st k0 T0 v V tn tf) (hG : Rw 8000 kg gn gf G) (he : e ≤ kg) (hj : j ≤ e) (hn : n ≤ 2100000) (hm : most ≤ 8000) (hl : lim + st = kh + most) (hv : v ≤ lim) : ∃ tn' tf', To H kh st k0 T0 (v + min n (min (e - j) (lim - v))) (catB V v G j) tn' tf' ∧ f_BR_takeLiterals (nI n) (nI j) (nI e) (nI most) bp gn gf tn tf = if min n (min (e - j) (lim - v)) < n then (if e ≤ j + min n (min (e - j) (lim - v)) then some (1, nI (j + min n (min (e - j) (lim - v))), nI e, tn', tf') else some (3, nI (j + min n (min (e - j) (lim - v))), nI (j + min n (min (e - j) (lim - v))), tn', tf')) else some (0, nI (j + n), bp, tn', tf') := by
  obtain ⟨kt, rfl, h4, h8, hst⟩ := To.count h
  have hk := hG.2.1
  obtain ⟨tn', tf', e1, h1⟩ := To.from h hG (a := j) (b := j + min n (min (e - j) (lim - v))) (by omega) (by omega) (by omega)
  rw [show j + min n (min (e - j) (lim - v)) - j = min n (min (e - j) (lim - v)) from by omega] at h1
  refine ⟨tn', tf', h1, ?_⟩
  have em : mn (nI n) (mn (nI e - nI j) (nI most - nI kt)) = nI (min n (min (e - j) (lim - v))) := by
    rw [pk_sub hj, pk_sub (by omega), mn_nI (by omega) (by omega), mn_nI (by omega) (by omega), show most - kt = lim - v from by omega]
  unfold f_BR_takeLiterals
  rw [j_BR_takeLiterals_0, if_pos (nI_pos' (by omega)), bd1_of (s_count _), em, nI_add, bd3_of e1]
  have hkn : min n (min (e - j) (lim - v)) ≤ n := Nat.min_le_left _ _
  generalize min n (min (e - j) (lim - v)) = k at *
  by_cases c : k < n
  · rw [if_neg (show ¬ nI k = nI n from fun z => by have := (nI_eq (by omega) (by omega)).mp z; omega), if_pos c]
    by_cases d : e ≤ j + k
    · rw [if_neg (nI_nlt d (by omega)), if_pos d]; rfl
    · rw [if_pos (nI_lt (by omega) (by omega)), if_neg d]; rfl
  · by_cases c2 : k = n
    · rw [if_pos (by rw [c2]), if_neg c, c2]
    · exact absurd (show k = n by omega) c2
theorem i_arr (a b c d : Int32) : a + (b - c) - d = (a + b) - c - d := by
  rw [Int32.sub_eq_add_neg b c, ← Int32.add_assoc, ← Int32.sub_eq_add_neg]
theorem copy_loop {H : Nat → Nat} {kh st k0 d : Nat} {T0 : Nat → Nat} {V : Nat → Nat} {hsn bp : Int32} {hsf : Nat → Int32} (hH : Rw 8000 kh hsn hsf H) (hd1 : 1 ≤ d) (hst : st ≤ 8000) {n v1 : Nat} (hd : d ≤ v1) (hV : ∀ i, v1 ≤ i → V i = V (i - d)) (hr : v1 + n + st ≤ kh + 8000) : ∀ (m fuel i : Nat) (tn : Int32) (tf : Nat → Int32), i + m = n → m < fuel → To H kh st k0 T0 (v1 + i) V tn tf → ∃ tn' tf', loop3 (b_BR_takeCopy_44 (nI n) (nI st) (nI d) bp hsn hsf) fuel (nI i) tn tf = some (0, bp, tn', tf') ∧ To H kh st k0 T0 (v1 + n) V tn' tf' := by
  have hkh := hH.2.1
  intro m
  induction m with
  | zero =>
    intro fuel i tn tf hi hf h
    obtain ⟨fuel, rfl⟩ : ∃ z, fuel = z + 1 := ⟨fuel - 1, by omega⟩
    rw [loop3_s, b_BR_takeCopy_44, if_pos (nI_le (by omega) (by omega))]
    rw [show i = n from by omega] at h
    exact ⟨tn, tf, rfl, h⟩
  | succ m ih =>
    intro fuel i tn tf hi hf h
    obtain ⟨fuel, rfl⟩ : ∃ z, fuel = z + 1 := ⟨fuel - 1, by omega⟩
    obtain ⟨kt, T, h1, h2, h3, h4, h5, h6⟩ := id h
    have hkt := h1.2.1
    have hb0 : ∀ j, j < v1 + i → V j < 256 := by
      intro j hj
      rw [h5 j hj]
      unfold virt
      by_cases c : j < kh
      · rw [if_pos c]; exact (hH.2.2.2 j c).1
      · rw [if_neg c]; exact (h1.2.2.2 _ (by omega)).1
    have hv := hV (v1 + i) (by omega)
    have hb : V (v1 + i) < 256 := by rw [hv]; exact hb0 _ (by omega)
    obtain ⟨tn', tf', e1, g⟩ := To.add h (by omega) hb
    have e111 : ∀ kh44, j_BR_takeCopy_111 (nI i) (nI (V (v1 + i))) tn tf kh44 = kh44 (nI (i + 1)) tn' tf' := fun kh44 => by rw [j_BR_takeCopy_111, bd3_of e1, nI_1]
    obtain ⟨tn2, tf2, e2, g2⟩ := ih fuel (i + 1) tn' tf' (by omega) (by omega) g
    refine ⟨tn2, tf2, ?_, g2⟩
    rw [loop3_s, b_BR_takeCopy_44, if_neg (nI_ge (by omega) (by omega)), bd1_of (s_count _)]
    have cmp : (tn - nI d < nI st) ↔ kt < st + d := by
      rw [h1.1, Int32.lt_iff_toInt_lt, pk_sub_toInt (by omega) (by omega), nI_toInt (by omega)]
      omega
    by_cases c : kt < st + d
    · rw [if_pos (cmp.mpr c), bd1_of (s_count _), i_arr, h1.1, hH.1, nI_add, pk_sub (by omega), pk_sub (by omega), ← hH.1, bd1_of (s_get hH (j := kh + kt - d - st) (by omega))]
      have ev : H (kh + kt - d - st) = V (v1 + i) := by
        rw [hv, h5 _ (by omega)]
        unfold virt
        rw [if_pos (by omega)]
        congr 1
        omega
      rw [ev, ← h1.1, e111, e2]
    · rw [if_neg (fun z => c (cmp.mp z)), show tn - nI d = nI (kt - d) from by rw [h1.1]; exact pk_sub (by omega), bd1_of (s_get h1 (j := kt - d) (by omega))]
      have ev : T (kt - d) = V (v1 + i) := by
        rw [hv, h5 _ (by omega)]
        unfold virt
        rw [if_neg (by omega)]
        congr 1
        omega
      rw [ev, e111, e2]
