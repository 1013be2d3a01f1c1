/-! The data are cut back to HISTORY. -/
theorem drop_loop {k kh w c : Nat} {dn : Int32} {df : Nat → Int32} {D : Nat → Nat} (hD : Rw 16000 k dn df D) (hkh : kh ≤ k) (hw : w ≤ 16000) (hc : c ≤ 16000) {ea : Nat → Int32} : ∀ (r fuel : Nat) (la : Nat → Int32), r < fuel → (r = 0 ∨ r + 3 ≤ k) → Chain (slotN D) r la ea → ∃ la', loop2 (b_Mat_cutTo_23 (nI kh) (nI w) (nI c) dn df ea) fuel (nI r - 1) la = some (nI (min c w), nI kh, la') ∧ Chain (slotN D) (min r w) la' ea := by
  have hk := hD.2.1
  intro r
  induction r with
  | zero =>
    intro fuel la hf hr hC
    obtain ⟨fuel, rfl⟩ : ∃ z, fuel = z + 1 := ⟨fuel - 1, by omega⟩
    refine ⟨la, ?_, by rw [Nat.zero_min]; exact hC⟩
    rw [loop2_s, b_Mat_cutTo_23, if_pos (Int32.lt_of_lt_of_le (show nI 0 - 1 < (0 : Int32) by decide) (nI_pos' (by omega))), bd1_of (s_cutTo hD hkh).1, mn_nI (by omega) (by omega)]
  | succ r ih =>
    intro fuel la hf hr hC
    obtain ⟨fuel, rfl⟩ : ∃ z, fuel = z + 1 := ⟨fuel - 1, by omega⟩
    rw [loop2_s, b_Mat_cutTo_23, nI_pred]
    by_cases x : r < w
    · rw [if_pos (nI_lt x (by omega)), bd1_of (s_cutTo hD hkh).1, mn_nI (by omega) (by omega), show min (r + 1) w = r + 1 from by omega]
      exact ⟨la, rfl, hC⟩
    · have hs := slotN_lt D r
      rw [if_neg (nI_nlt (by omega) (by omega)), bd1_of (s_word hD (j := r) (by omega)), bd1_of (s_slot D r), as_of (vp_in_nI (by omega) (by decide)), bd1_of (s_setLatest hs la _), nI_clamp (by omega), show nI r + (-1 : Int32) = nI r - 1 from (Int32.sub_eq_add_neg _ _).symm, show min (r + 1) w = min r w from by omega]
      exact ih fuel _ (by omega) (by omega) (hC.pop hs)
theorem s_drop {N k kh c : Nat} {dn hsn : Int32} {df la ea : Nat → Int32} {D : Nat → Nat} (hN : 20000 < N) (hD : Rw 16000 k dn df D) (hkh : kh ≤ k) (hh : hsn = nI kh) (hC : ChOK D k c la ea) (hck : c ≤ k) : ∃ c' la', f_BW_dropContent N (nI c) dn df la ea hsn = some (nI c', nI kh, la') ∧ Rw 16000 kh (nI kh) df D ∧ ChOK D kh c' la' ea ∧ c' ≤ kh := by
  have hk := hD.2.1
  obtain ⟨la', e, h⟩ := drop_loop hD hkh (w := kh - 3) (c := c) (by omega) (by omega) c N la (by omega) hC.2 hC.1
  refine ⟨min c (kh - 3), la', ?_, (s_cutTo hD hkh).2, ⟨h, by omega⟩, by omega⟩
  have em : mx 0 (nI kh - 3) = nI (kh - 3) := by
    by_cases x : 3 ≤ kh
    · rw [show nI kh - (3 : Int32) = nI (kh - 3) from pk_sub x]
      unfold mx
      by_cases y : kh - 3 = 0
      · rw [y]; rfl
      · rw [if_pos (show (0 : Int32) < nI (kh - 3) from nI_lt (a := 0) (by omega) (by omega))]
    · have lt : nI kh - (3 : Int32) < 0 := pk_sneg (b := 3) (by decide) (by omega)
      unfold mx
      rw [if_neg (fun z => by
        have a1 := Int32.lt_iff_toInt_lt.mp lt
        have a2 := Int32.lt_iff_toInt_lt.mp z
        omega), show kh - 3 = 0 from by omega]
      rfl
  have ec : f_Mat_cutTo N (nI kh) (nI c) dn df la ea = some (nI (min c (kh - 3)), nI kh, la') := by
    unfold f_Mat_cutTo
    rw [j_Mat_cutTo_0, em, show mn (nI c) (Int32.ofNat 16000) = nI c from by
      rw [show Int32.ofNat 16000 = nI 16000 from rfl, mn_nI (by omega) (by decide), show min c 16000 = c from by omega]]
    exact e
  unfold f_BW_dropContent
  rw [j_BW_dropContent_0, bd1_of (s_count _), hh, bd3_of ec]
