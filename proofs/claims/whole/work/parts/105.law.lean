/-! The law: class and model, call by call. -/
theorem loop53_s {α1 α2 α3 α4 α5 α6 α7 α8 α9 α10 α11 α12 α13 α14 α15 α16 α17 α18 α19 α20 α21 α22 α23 α24 α25 α26 α27 α28 α29 α30 α31 α32 α33 α34 α35 α36 α37 α38 α39 α40 α41 α42 α43 α44 α45 α46 α47 α48 α49 α50 α51 α52 α53 ρ : Type} (b : (α1 → α2 → α3 → α4 → α5 → α6 → α7 → α8 → α9 → α10 → α11 → α12 → α13 → α14 → α15 → α16 → α17 → α18 → α19 → α20 → α21 → α22 → α23 → α24 → α25 → α26 → α27 → α28 → α29 → α30 → α31 → α32 → α33 → α34 → α35 → α36 → α37 → α38 → α39 → α40 → α41 → α42 → α43 → α44 → α45 → α46 → α47 → α48 → α49 → α50 → α51 → α52 → α53 → Option ρ) → α1 → α2 → α3 → α4 → α5 → α6 → α7 → α8 → α9 → α10 → α11 → α12 → α13 → α14 → α15 → α16 → α17 → α18 → α19 → α20 → α21 → α22 → α23 → α24 → α25 → α26 → α27 → α28 → α29 → α30 → α31 → α32 → α33 → α34 → α35 → α36 → α37 → α38 → α39 → α40 → α41 → α42 → α43 → α44 → α45 → α46 → α47 → α48 → α49 → α50 → α51 → α52 → α53 → Option ρ) (n : Nat) (x1 : α1) (x2 : α2) (x3 : α3) (x4 : α4) (x5 : α5) (x6 : α6) (x7 : α7) (x8 : α8) (x9 : α9) (x10 : α10) (x11 : α11) (x12 : α12) (x13 : α13) (x14 : α14) (x15 : α15) (x16 : α16) (x17 : α17) (x18 : α18) (x19 : α19) (x20 : α20) (x21 : α21) (x22 : α22) (x23 : α23) (x24 : α24) (x25 : α25) (x26 : α26) (x27 : α27) (x28 : α28) (x29 : α29) (x30 : α30) (x31 : α31) (x32 : α32) (x33 : α33) (x34 : α34) (x35 : α35) (x36 : α36) (x37 : α37) (x38 : α38) (x39 : α39) (x40 : α40) (x41 : α41) (x42 : α42) (x43 : α43) (x44 : α44) (x45 : α45) (x46 : α46) (x47 : α47) (x48 : α48) (x49 : α49) (x50 : α50) (x51 : α51) (x52 : α52) (x53 : α53) : loop53 b (n + 1) x1 x2 x3 x4 x5 x6 x7 x8 x9 x10 x11 x12 x13 x14 x15 x16 x17 x18 x19 x20 x21 x22 x23 x24 x25 x26 x27 x28 x29 x30 x31 x32 x33 x34 x35 x36 x37 x38 x39 x40 x41 x42 x43 x44 x45 x46 x47 x48 x49 x50 x51 x52 x53 = b (loop53 b n) x1 x2 x3 x4 x5 x6 x7 x8 x9 x10 x11 x12 x13 x14 x15 x16 x17 x18 x19 x20 x21 x22 x23 x24 x25 x26 x27 x28 x29 x30 x31 x32 x33 x34 x35 x36 x37 x38 x39 x40 x41 x42 x43 x44 x45 x46 x47 x48 x49 x50 x51 x52 x53 := rfl
def Iv (xp : Int32) (gn : Int32) (gf : Nat → Int32) (un : Int32) (uf : Nat → Int32) (hsn : Int32) (hsf : Nat → Int32) (tn : Int32) (tf : Nat → Int32) (dn : Int32) (df : Nat → Int32) (pkn : Int32) (pkf : Nat → Int32) (win : Int32) (won : Int32) (whn : Int32) (wpl : Int32) (wif : Nat → Int32) (wof : Nat → Int32) (whf : Nat → Int32) : Prop := Tw gn gf win wif ∧ Tw un uf won wof ∧ Tw hsn hsf whn whf ∧ xp = wpl ∧ Wk tn tf dn df ∧ ∃ k B, Rw 8000 k pkn pkf B
abbrev KqL : Type := Int32 → Int32 → Int32 → (Nat → Int32) → Int32 → (Nat → Int32) → Int32 → (Nat → Int32) → Int32 → (Nat → Int32) → Int32 → Int32 → Int32 → Int32 → (Nat → Int32) → (Nat → Int32) → (Nat → Int32) → Int32 → (Nat → Int32) → Int32 → Int32 → Int32 → Int32 → Int32 → Int32 → Int32 → Int32 → Int32 → Int32 → Int32 → Int32 → Int32 → Int32 → Int32 → Int32 → Int32 → Int32 → Int32 → Int32 → Int32 → Int32 → Int32 → Int32 → Int32 → (Nat → Int32) → (Nat → Int32) → (Nat → Int32) → (Nat → Int32) → (Nat → Int32) → (Nat → Int32) → (Nat → Int32) → (Nat → Int32) → (Nat → Int64) → Option Unit
def Nx (kq : KqL) (i : Nat) : Prop := ∀ (xp : Int32) (gn : Int32) (gf : Nat → Int32) (un : Int32) (uf : Nat → Int32) (hsn : Int32) (hsf : Nat → Int32) (tn : Int32) (tf : Nat → Int32) (mc : Int32) (ms : Int32) (ml : Int32) (dn : Int32) (df : Nat → Int32) (laf : Nat → Int32) (eaf : Nat → Int32) (pkn : Int32) (pkf : Nat → Int32) (b_at : Int32) (b_end : Int32) (b_start : Int32) (b_most : Int32) (b_dist : Int32) (b_place : Int32) (q_at : Int32) (q_most : Int32) (q_flags : Int32) (q_great : Int32) (q_sizeAt : Int32) (q_start : Int32) (q_place : Int32) (win : Int32) (won : Int32) (whn : Int32) (wpl : Int32) (wdn : Int32) (wfo : Int32) (wmn : Int32) (wpn : Int32) (wbn : Int32) (wcn : Int32) (wat : Int32) (wnu : Int32) (wif : Nat → Int32) (wof : Nat → Int32) (whf : Nat → Int32) (wdf : Nat → Int32) (wmf : Nat → Int32) (wpf : Nat → Int32) (wbf : Nat → Int32) (wcf : Nat → Int32) (wlf : Nat → Int64), Iv xp gn gf un uf hsn hsf tn tf dn df pkn pkf win won whn wpl wif wof whf → kq (nI i) xp gn gf un uf hsn hsf tn tf mc ms ml dn df laf eaf pkn pkf b_at b_end b_start b_most b_dist b_place q_at q_most q_flags q_great q_sizeAt q_start q_place win won whn wpl wdn wfo wmn wpn wbn wcn wat wnu wif wof whf wdf wmf wpf wbf wcf wlf = some ()
theorem l_423 {kq : KqL} {i : Nat} {xp : Int32} {gn : Int32} {gf : Nat → Int32} {un : Int32} {uf : Nat → Int32} {hsn : Int32} {hsf : Nat → Int32} {tn : Int32} {tf : Nat → Int32} {mc : Int32} {ms : Int32} {ml : Int32} {dn : Int32} {df : Nat → Int32} {laf : Nat → Int32} {eaf : Nat → Int32} {pkn : Int32} {pkf : Nat → Int32} {b_at : Int32} {b_end : Int32} {b_start : Int32} {b_most : Int32} {b_dist : Int32} {b_place : Int32} {q_at : Int32} {q_most : Int32} {q_flags : Int32} {q_great : Int32} {q_sizeAt : Int32} {q_start : Int32} {q_place : Int32} {win : Int32} {won : Int32} {whn : Int32} {wpl : Int32} {wdn : Int32} {wfo : Int32} {wmn : Int32} {wpn : Int32} {wbn : Int32} {wcn : Int32} {wat : Int32} {wnu : Int32} {wif : Nat → Int32} {wof : Nat → Int32} {whf : Nat → Int32} {wdf : Nat → Int32} {wmf : Nat → Int32} {wpf : Nat → Int32} {wbf : Nat → Int32} {wcf : Nat → Int32} {wlf : Nat → Int64} (hq : Nx kq (i + 6)) (h : Iv xp gn gf un uf hsn hsf tn tf dn df pkn pkf win won whn wpl wif wof whf) : j_Law_law_423 (nI i) xp gn gf un uf hsn hsf tn tf mc ms ml dn df laf eaf pkn pkf b_at b_end b_start b_most b_dist b_place q_at q_most q_flags q_great q_sizeAt q_start q_place win won whn wpl wdn wfo wmn wpn wbn wcn wat wnu wif wof whf wdf wmf wpf wbf wcf wlf kq = some () := by
  rw [j_Law_law_423, show nI i + (6 : Int32) = nI (i + 6) from nI_add i 6]
  exact hq xp gn gf un uf hsn hsf tn tf mc ms ml dn df laf eaf pkn pkf b_at b_end b_start b_most b_dist b_place q_at q_most q_flags q_great q_sizeAt q_start q_place win won whn wpl wdn wfo wmn wpn wbn wcn wat wnu wif wof whf wdf wmf wpf wbf wcf wlf h
theorem l_step {N L i : Nat} {xs : Nat → Int32} {kq : KqL} {xp : Int32} {gn : Int32} {gf : Nat → Int32} {un : Int32} {uf : Nat → Int32} {hsn : Int32} {hsf : Nat → Int32} {tn : Int32} {tf : Nat → Int32} {mc : Int32} {ms : Int32} {ml : Int32} {dn : Int32} {df : Nat → Int32} {laf : Nat → Int32} {eaf : Nat → Int32} {pkn : Int32} {pkf : Nat → Int32} {b_at : Int32} {b_end : Int32} {b_start : Int32} {b_most : Int32} {b_dist : Int32} {b_place : Int32} {q_at : Int32} {q_most : Int32} {q_flags : Int32} {q_great : Int32} {q_sizeAt : Int32} {q_start : Int32} {q_place : Int32} {win : Int32} {won : Int32} {whn : Int32} {wpl : Int32} {wdn : Int32} {wfo : Int32} {wmn : Int32} {wpn : Int32} {wbn : Int32} {wcn : Int32} {wat : Int32} {wnu : Int32} {wif : Nat → Int32} {wof : Nat → Int32} {whf : Nat → Int32} {wdf : Nat → Int32} {wmf : Nat → Int32} {wpf : Nat → Int32} {wbf : Nat → Int32} {wcf : Nat → Int32} {wlf : Nat → Int64} (hN : 20010 < N) (hL : L ≤ 3072) (hq : Nx kq (i + 6)) (hi : i ≤ L) (h : Iv xp gn gf un uf hsn hsf tn tf dn df pkn pkf win won whn wpl wif wof whf) : b_Law_law_18 N L xs kq (nI i) xp gn gf un uf hsn hsf tn tf mc ms ml dn df laf eaf pkn pkf b_at b_end b_start b_most b_dist b_place q_at q_most q_flags q_great q_sizeAt q_start q_place win won whn wpl wdn wfo wmn wpn wbn wcn wat wnu wif wof whf wdf wmf wpf wbf wcf wlf = some () := by
  obtain ⟨hg, hu, hh, hp, hk, hpk⟩ := id h
  rw [b_Law_law_18]
  by_cases c : L < i + 6
  · rw [if_pos (show Int32.ofNat L - (6 : Int32) < nI i from by
      rw [Int32.lt_iff_toInt_lt, show (Int32.ofNat L - (6 : Int32)).toInt = (L : Int) - 6 from pk_sub_toInt (a := L) (b := 6) (by omega) (by decide), nI_toInt (by omega)]
      omega)]
  rw [if_neg (show ¬ Int32.ofNat L - (6 : Int32) < nI i from by
    rw [Int32.lt_iff_toInt_lt, show (Int32.ofNat L - (6 : Int32)).toInt = (L : Int) - 6 from pk_sub_toInt (a := L) (b := 6) (by omega) (by decide), nI_toInt (by omega)]
    omega)]
  have v0 : vp_in (nI i) L := vp_in_nI (by omega) (by omega)
  have v1 : vp_in (nI i + (1 : Int32)) L := by
    rw [show nI i + (1 : Int32) = nI (i + 1) from nI_add i 1]
    exact vp_in_nI (by omega) (by omega)
  have v2 : vp_in (nI i + (2 : Int32)) L := by
    rw [show nI i + (2 : Int32) = nI (i + 2) from nI_add i 2]
    exact vp_in_nI (by omega) (by omega)
  have v3 : vp_in (nI i + (3 : Int32)) L := by
    rw [show nI i + (3 : Int32) = nI (i + 3) from nI_add i 3]
    exact vp_in_nI (by omega) (by omega)
  have v4 : vp_in (nI i + (4 : Int32)) L := by
    rw [show nI i + (4 : Int32) = nI (i + 4) from nI_add i 4]
    exact vp_in_nI (by omega) (by omega)
  have v5 : vp_in (nI i + (5 : Int32)) L := by
    rw [show nI i + (5 : Int32) = nI (i + 5) from nI_add i 5]
    exact vp_in_nI (by omega) (by omega)
  rw [as_of v0]
  generalize xs (nI i).toNatClampNeg &&& (15 : Int32) = op
  generalize xs (nI i + (1 : Int32)).toNatClampNeg = a1
  generalize xs (nI i + (2 : Int32)).toNatClampNeg = a2
  generalize xs (nI i + (3 : Int32)).toNatClampNeg = a3
  generalize xs (nI i + (4 : Int32)).toNatClampNeg = a4
  generalize xs (nI i + (5 : Int32)).toNatClampNeg = a5
  by_cases c0 : op = 0
  · rw [if_pos c0]
    obtain ⟨r, gn', gf', win', wif', e1, e2, g⟩ := p_write (N := N) hN hg (sl64 a1.toInt64 (32 : Int32) ||| (a2.toInt64 &&& (4294967295 : Int64))) a3
    rw [as_of v1, as_of v2, as_of v3, bd3_of e1, as_of v1, as_of v2, as_of v3, bd3_of e2, if_pos rfl]
    exact l_423 hq ⟨g, hu, hh, hp, hk, hpk⟩
  rw [if_neg c0]
  by_cases c1 : op = 1
  · rw [if_pos c1]
    obtain ⟨r, gn', gf', win', wif', e1, e2, g⟩ := p_again (N := N) hN hg a1 a2
    rw [as_of v1, as_of v2, bd3_of e1, as_of v1, as_of v2, bd3_of e2, if_pos rfl]
    exact l_423 hq ⟨g, hu, hh, hp, hk, hpk⟩
  rw [if_neg c1]
  by_cases c2 : op = 2
  · rw [if_pos c2]
    obtain ⟨gn', win', e1, e2, g⟩ := p_clear hg
    rw [bd1_of e1, bd1_of e2]
    exact l_423 hq ⟨g, hu, hh, hp, hk, hpk⟩
  rw [if_neg c2]
  by_cases c3 : op = 3
  · rw [if_pos c3]
    obtain ⟨gn', gf', win', wif', e1, e2, g⟩ := p_turn (N := N) hN hg hu
    rw [bd2_of e1, bd2_of e2]
    exact l_423 hq ⟨g, hu, hh, hp, hk, hpk⟩
  rw [if_neg c3]
  by_cases c4 : op = 4
  · rw [if_pos c4]
    obtain ⟨gn', hsn', hsf', win', whn', whf', e1, e2, g, g2⟩ := p_remember (N := N) hN hg hh
    rw [bd3_of e1, bd3_of e2]
    exact l_423 hq ⟨g, hu, g2, hp, hk, hpk⟩
  rw [if_neg c4]
  by_cases c5 : op = 5
  · rw [if_pos c5]
    obtain ⟨r, un', uf', tn', tf', mc', ms', ml', dn', df', laf', eaf', won', wdn', wfo', wpn', wof', wdf', wpf', e1, e2, g, g2⟩ := p_block (N := N) (mc := mc) (ms := ms) (ml := ml) (laf := laf) (eaf := eaf) (wdn := wdn) (wfo := wfo) (wpn := wpn) (wdf := wdf) (wpf := wpf) hN a1 hg hu hh hk
    rw [as_of v1, bd12_of e1, as_of v1, bd8_of e2, if_pos rfl]
    exact l_423 hq ⟨hg, g, hh, hp, g2, hpk⟩
  rw [if_neg c5]
  by_cases c6 : op = 6
  · rw [if_pos c6]
    obtain ⟨r, xp', un', uf', tn', tf', d1, d2, d3, d4, d5, d6, won', wbn', wat', wnu', wof', wbf', e1, e2, g, g2⟩ := p_unblock (N := N) (b1 := b_at) (b2 := b_end) (b3 := b_start) (b4 := b_most) (b5 := b_dist) (b6 := b_place) (wbn := wbn) (wat := wat) (wnu := wnu) (wbf := wbf) hN a1 hg hu hh hk.1 hp
    rw [as_of v1, bd12_of e1, as_of v1, bd8_of e2, if_pos rfl]
    exact l_423 hq ⟨hg, g, hh, rfl, ⟨g2, hk.2⟩, hpk⟩
  rw [if_neg c6]
  by_cases c7 : op = 7
  · rw [if_pos c7]
    obtain ⟨r, un', uf', tn', tf', mc', ms', ml', dn', df', laf', eaf', pkn', pkf', won', wdn', wfo', wmn', wpn', wof', wdf', wmf', wpf', wlf', e1, e2, g, g2, g3⟩ := p_frame (N := N) (mc := mc) (ms := ms) (ml := ml) (laf := laf) (eaf := eaf) (wdn := wdn) (wfo := wfo) (wmn := wmn) (wpn := wpn) (wdf := wdf) (wmf := wmf) (wpf := wpf) (wlf := wlf) hN a1 a2 a3 a4 a5 hg hu hh hk hpk
    rw [as_of v1, as_of v2, as_of v3, as_of v4, as_of v5, bd14_of e1, as_of v1, as_of v2, as_of v3, as_of v4, as_of v5, bd11_of e2, if_pos rfl]
    exact l_423 hq ⟨hg, g, hh, hp, g2, g3⟩
  rw [if_neg c7]
  by_cases c8 : op = 8
  · rw [if_pos c8]
    obtain ⟨r, xp', un', uf', tn', tf', d1, d2, d3, d4, d5, d6, p1, p2, p3, p4, p5, p6, p7, won', wbn', wcn', wat', wnu', wof', wbf', wcf', wlf', e1, e2, g, g2⟩ := p_unframe (N := N) (b1 := b_at) (b2 := b_end) (b3 := b_start) (b4 := b_most) (b5 := b_dist) (b6 := b_place) (q1 := q_at) (q2 := q_most) (q3 := q_flags) (q4 := q_great) (q5 := q_sizeAt) (q6 := q_start) (q7 := q_place) (wbn := wbn) (wcn := wcn) (wat := wat) (wnu := wnu) (wbf := wbf) (wcf := wcf) (wlf := wlf) hN a1 hg hu hh hk.1 hp
    rw [as_of v1, bd19_of e1, as_of v1, bd11_of e2, if_pos rfl]
    exact l_423 hq ⟨hg, g, hh, rfl, ⟨g2, hk.2⟩, hpk⟩
  rw [if_neg c8]
  by_cases c9 : op = 9
  · rw [if_pos c9]
    obtain ⟨r, e1, e2⟩ := p_place hp
    rw [bd1_of e1, bd1_of e2, if_pos rfl]
    exact l_423 hq h
  rw [if_neg c9]
  by_cases c10 : op = 10
  · rw [if_pos c10]
    obtain ⟨r, wlf', e1, e2⟩ := p_sum (N := N) (wlf := wlf) hN hg
    rw [bd1_of e1, bd2_of e2, if_pos rfl]
    exact l_423 hq h
  rw [if_neg c10]
  by_cases c11 : op = 11
  · rw [if_pos c11]
    obtain ⟨r, e1, e2⟩ := p_size hu
    rw [bd1_of e1, bd1_of e2, if_pos rfl]
    exact l_423 hq h
  rw [if_neg c11]
  by_cases c12 : op = 12
  · rw [if_pos c12]
    obtain ⟨r, e1, e2⟩ := p_byteAt a1 hu
    rw [as_of v1, bd1_of e1, as_of v1, bd1_of e2, if_pos rfl]
    exact l_423 hq h
  rw [if_neg c12]
  exact l_423 hq h
theorem l_loop {N L : Nat} {xs : Nat → Int32} (hN : 20010 < N) (hL : L ≤ 3072) : ∀ (m fuel i : Nat), L - i ≤ m → m < fuel → i ≤ L + 6 → Nx (loop53 (b_Law_law_18 N L xs) fuel) i := by
  intro m
  induction m with
  | zero =>
    intro fuel i h1 h2 h3
    obtain ⟨fuel, rfl⟩ : ∃ z, fuel = z + 1 := ⟨fuel - 1, by omega⟩
    intro xp gn gf un uf hsn hsf tn tf mc ms ml dn df laf eaf pkn pkf b_at b_end b_start b_most b_dist b_place q_at q_most q_flags q_great q_sizeAt q_start q_place win won whn wpl wdn wfo wmn wpn wbn wcn wat wnu wif wof whf wdf wmf wpf wbf wcf wlf h
    rw [loop53_s, b_Law_law_18, if_pos (show Int32.ofNat L - (6 : Int32) < nI i from by
      rw [Int32.lt_iff_toInt_lt, show (Int32.ofNat L - (6 : Int32)).toInt = (L : Int) - 6 from pk_sub_toInt (a := L) (b := 6) (by omega) (by decide), nI_toInt (by omega)]
      omega)]
  | succ m ih =>
    intro fuel i h1 h2 h3
    obtain ⟨fuel, rfl⟩ : ∃ z, fuel = z + 1 := ⟨fuel - 1, by omega⟩
    intro xp gn gf un uf hsn hsf tn tf mc ms ml dn df laf eaf pkn pkf b_at b_end b_start b_most b_dist b_place q_at q_most q_flags q_great q_sizeAt q_start q_place win won whn wpl wdn wfo wmn wpn wbn wcn wat wnu wif wof whf wdf wmf wpf wbf wcf wlf h
    rw [loop53_s]
    by_cases c : i ≤ L
    · exact l_step hN hL (ih fuel (i + 6) (by omega) (by omega) (by omega)) c h
    · rw [b_Law_law_18, if_pos (show Int32.ofNat L - (6 : Int32) < nI i from by
        rw [Int32.lt_iff_toInt_lt, show (Int32.ofNat L - (6 : Int32)).toInt = (L : Int) - 6 from pk_sub_toInt (a := L) (b := 6) (by omega) (by decide), nI_toInt (by omega)]
        omega)]
theorem tw0 : Tw 0 (fun _ => 0) 0 (fun _ => 0) := ⟨0, fun _ => 0, ⟨rfl, Nat.zero_le _, by decide, fun j hj => absurd hj (Nat.not_lt_zero j)⟩, rfl, Nat.zero_le _, fun j hj => absurd hj (Nat.not_lt_zero j)⟩
