abbrev wd_Row_same (r ra : Nat) (cB cI cJ : ClassId) (rL : Nat) (rn : Int32) (rf : Nat → Int32) : va_W := [(r, .inr (1, [.ref ra, .int rn])), (ra, .inl (cB, rL, .inl rf))]
abbrev rm_Row_same : Room := { frames := 1, cells := 0, slots := 0, locals := 13 }
section
variable {p : Program} {l : Launch} {e : Env} {s : State} {m : MethodId} {args : Array Value} {below : List Frame} {meth : Method} {c : Code} {dC : Nat → ClassId} {dI : Nat → Nat → Nat} {A : Nat → Prop} {cB cI cJ : ClassId} {H : Heap} {locs : List Loc} {ls : Array Slot} {N : Nat} {r ra rL : Nat}
noncomputable def b_Row_same_38 (rL : Nat) (x1 : Int32) (x2 : Int32) (x4 : Int32) (rf : Nat → Int32)  (kh38 : Int32 → Option (Int32)) (x5 : Int32) : Option (Int32) :=
  (if x4 ≤ x5 then (some (mx (0 : Int32) x4) : Option (Int32)) else as_ (vp_in (x1 + x5) rL) (as_ (vp_in (x2 + x5) rL) ((if (rf (x1 + x5).toNatClampNeg) = (rf (x2 + x5).toNatClampNeg) then (kh38 (x5 + 1)) else (some x5 : Option (Int32))))))
set_option maxHeartbeats 4000000 in
set_option maxRecDepth 100000 in
theorem k_Row_same_38 {r_z : Int32} (C : Fx p s m args meth c cd_Row_same 6 R_Row lw_g (some .int)) (hK : va_K (dC, dI) vwCl [(cB, .byte), (cI, .int), (cJ, .long)] s) (hA : ∀ q, s.heap.size ≤ q → A q) (x1 : Int32) (x2 : Int32) (x4 : Int32) (rn : Int32) (rf : Nat → Int32)  : ∀ (n : Nat) (x5 : Int32), loop1 (b_Row_same_38 rL x1 x2 x4 rf ) n x5 = some r_z → ∀ (H : Heap) (locs : List Loc), va_P (dC, dI) vwCl (wd_Row_same r ra cB cI cJ rL rn rf) H → va_D A (wd_Row_same r ra cB cI cJ rL rn rf) → va_S A s.heap H locs → ∀ (ls : Array Slot), lv_has ls 6 [(0, .ref r), (1, .int x1), (2, .int x2), (4, .int x4), (5, .int x5)] → W p l e rm_Row_same s m args below meth c H locs 0 0 (MQ below (sQi (dC, dI) vwCl [(cB, .byte), (cI, .int), (cJ, .long)] A r_z (wd_Row_same r ra cB cI cJ rL rn rf)) args s 0 0 A) (F0 m 38 ls []) := by
  obtain ⟨hx, hb, hml, hown, hts, hr, hlocks, hZ⟩ := id C
  intro n
  induction n with
  | zero => intro x5 hf; cases hf
  | succ n ih38 =>
    intro x5 hf H locs hP hD hS ls hl
    have hf : b_Row_same_38 rL x1 x2 x4 rf  (loop1 (b_Row_same_38 rL x1 x2 x4 rf ) n) x5 = some r_z := hf
    generalize loop1 (b_Row_same_38 rL x1 x2 x4 rf ) n = kh38 at hf ih38
    unfold b_Row_same_38 at hf
    refine lv_iload hx hb d_Row_same_38 (lv_at hl 4 rfl) ?_
    refine lv_iload hx hb d_Row_same_40 (lv_at hl 3 rfl) ?_
    refine lv_icmp_ge (tgt := 75) hx hb d_Row_same_42 (by decide) (fun c_42 => ?_) (fun c_42 => ?_)
    · have hf := br_pos c_42 hf
      refine lv_iconst (v := 0) hx hb d_Row_same_75 (by decide) ?_
      refine lv_iload hx hb d_Row_same_76 (lv_at hl 3 rfl) ?_
      refine s_mmax hx hb (hml.trans hl.1.symm) hown (hts _ w_26) (hts _ w_27) (hts _ w_24) (hts _ w_28) (Nat.le_of_ble_eq_true rfl) (Nat.le_of_ble_eq_true rfl) (Nat.zero_le _) (Nat.zero_le _) d_Row_same_78 ?_
      cases hf
      exact s_iret hx hb hr hlocks hP hK hD hS d_Row_same_81
    · have hf := br_neg c_42 hf
      refine lv_aload_n hx hb d_Row_same_45 rfl (lv_at hl 0 rfl) ?_
      refine va_get (D := (dC, dI)) (ci := 1) (v := .ref ra) (C := R_Row) (T := T_Row) (N := 2) hx hb hts w_0 hown hK hP 0 rfl rfl 0 (by decide) (hts _ w_2) (fun _ h9 => h9) rfl d_Row_same_46 ?_
      refine lv_iload_n hx hb d_Row_same_49 rfl (lv_at hl 1 rfl) ?_
      refine lv_iload hx hb d_Row_same_50 (lv_at hl 4 rfl) ?_
      refine lv_iadd hx hb d_Row_same_52 ?_
      obtain ⟨h_in, hf⟩ := as_some hf
      refine va_bald hx hb hK hP 1 0 rfl rfl h_in d_Row_same_53 ?_
      refine lv_aload_n hx hb d_Row_same_54 rfl (lv_at hl 0 rfl) ?_
      refine va_get (D := (dC, dI)) (ci := 1) (v := .ref ra) (C := R_Row) (T := T_Row) (N := 2) hx hb hts w_0 hown hK hP 0 rfl rfl 0 (by decide) (hts _ w_2) (fun _ h9 => h9) rfl d_Row_same_55 ?_
      refine lv_iload_n hx hb d_Row_same_58 rfl (lv_at hl 2 rfl) ?_
      refine lv_iload hx hb d_Row_same_59 (lv_at hl 4 rfl) ?_
      refine lv_iadd hx hb d_Row_same_61 ?_
      obtain ⟨h_in, hf⟩ := as_some hf
      refine va_bald hx hb hK hP 1 0 rfl rfl h_in d_Row_same_62 ?_
      refine lv_icmp_eq (tgt := 69) hx hb d_Row_same_63 (by decide) (fun c_63 => ?_) (fun c_63 => ?_)
      · have hf := br_pos c_63 hf
        refine lv_iinc (v := (x5 + 1)) (lv' := [(5, .int (x5 + 1)), (0, .ref r), (1, .int x1), (2, .int x2), (4, .int x4)]) hx hb d_Row_same_69 hl (k := 4) rfl (congrArg (fun z => x5 + z) (by decide)) (by decide) rfl (fun ls hl => ?_)
        refine lv_goto (tgt := 38) hx hb d_Row_same_72 (by decide) ?_
        exact ih38 (x5 + 1) hf _ _ hP hD hS _ (lv_sub hl [1, 2, 3, 4, 0] rfl)
      · have hf := br_neg c_63 hf
        refine lv_iload hx hb d_Row_same_66 (lv_at hl 4 rfl) ?_
        cases hf
        exact s_iret hx hb hr hlocks hP hK hD hS d_Row_same_68
noncomputable def j_Row_same_0 (N : Nat) (rL : Nat) (x1 : Int32) (x2 : Int32) (x3 : Int32) (rn : Int32) (rf : Nat → Int32)  : Option (Int32) :=
  (if x1 < 0 then (some (0 : Int32) : Option (Int32)) else (if x2 < x1 then (some (0 : Int32) : Option (Int32)) else (if rn ≤ (Int32.ofNat rL) then (loop1 (b_Row_same_38 rL x1 x2 ((mn x3 rn) - x2) rf ) N (0 : Int32)) else (some (0 : Int32) : Option (Int32)))))
set_option maxHeartbeats 4000000 in
set_option maxRecDepth 100000 in
theorem k_Row_same_0 {r_z : Int32} (C : Fx p s m args meth c cd_Row_same 6 R_Row lw_g (some .int)) (hK : va_K (dC, dI) vwCl [(cB, .byte), (cI, .int), (cJ, .long)] s) (hA : ∀ q, s.heap.size ≤ q → A q) (x1 : Int32) (x2 : Int32) (x3 : Int32) (rn : Int32) (rf : Nat → Int32)  (hf : j_Row_same_0 N rL x1 x2 x3 rn rf  = some r_z) (hP : va_P (dC, dI) vwCl (wd_Row_same r ra cB cI cJ rL rn rf) H) (hD : va_D A (wd_Row_same r ra cB cI cJ rL rn rf)) (hS : va_S A s.heap H locs) (hl : lv_has ls 6 [(0, .ref r), (1, .int x1), (2, .int x2), (3, .int x3)]) : W p l e rm_Row_same s m args below meth c H locs 0 0 (MQ below (sQi (dC, dI) vwCl [(cB, .byte), (cI, .int), (cJ, .long)] A r_z (wd_Row_same r ra cB cI cJ rL rn rf)) args s 0 0 A) (F0 m 0 ls []) := by
  obtain ⟨hx, hb, hml, hown, hts, hr, hlocks, hZ⟩ := id C
  unfold j_Row_same_0 at hf
  refine lv_iload_n hx hb d_Row_same_0 rfl (lv_at hl 3 rfl) ?_
  refine lv_aload_n hx hb d_Row_same_1 rfl (lv_at hl 0 rfl) ?_
  refine va_get (D := (dC, dI)) (ci := 1) (v := .int rn) (C := R_Row) (T := T_Row) (N := 2) hx hb hts w_0 hown hK hP 0 rfl rfl 1 (by decide) (hts _ w_1) (fun _ h9 => h9) rfl d_Row_same_2 ?_
  refine s_mmin hx hb (hml.trans hl.1.symm) hown (hts _ w_22) (hts _ w_23) (hts _ w_24) (hts _ w_25) (Nat.le_of_ble_eq_true rfl) (Nat.le_of_ble_eq_true rfl) (Nat.zero_le _) (Nat.zero_le _) d_Row_same_5 ?_
  refine lv_iload_n hx hb d_Row_same_8 rfl (lv_at hl 2 rfl) ?_
  refine lv_isub hx hb d_Row_same_9 ?_
  refine lv_istore (lv' := [(4, .int ((mn x3 rn) - x2)), (0, .ref r), (1, .int x1), (2, .int x2), (3, .int x3)]) hx hb d_Row_same_10 hl (by decide) rfl (fun ls hl => ?_)
  refine lv_iload_n hx hb d_Row_same_12 rfl (lv_at hl 2 rfl) ?_
  refine lv_if_lt (tgt := 33) hx hb d_Row_same_13 (by decide) (fun c_13 => ?_) (fun c_13 => ?_)
  · have hf := br_pos c_13 hf
    refine lv_iconst (v := 0) hx hb d_Row_same_33 (by decide) ?_
    cases hf
    exact s_iret hx hb hr hlocks hP hK hD hS d_Row_same_34
  · have hf := br_neg c_13 hf
    refine lv_iload_n hx hb d_Row_same_16 rfl (lv_at hl 2 rfl) ?_
    refine lv_iload_n hx hb d_Row_same_17 rfl (lv_at hl 3 rfl) ?_
    refine lv_icmp_gt (tgt := 33) hx hb d_Row_same_18 (by decide) (fun c_18 => ?_) (fun c_18 => ?_)
    · have hf := br_pos c_18 hf
      refine lv_iconst (v := 0) hx hb d_Row_same_33 (by decide) ?_
      cases hf
      exact s_iret hx hb hr hlocks hP hK hD hS d_Row_same_34
    · have hf := br_neg c_18 hf
      refine lv_aload_n hx hb d_Row_same_21 rfl (lv_at hl 1 rfl) ?_
      refine va_get (D := (dC, dI)) (ci := 1) (v := .int rn) (C := R_Row) (T := T_Row) (N := 2) hx hb hts w_0 hown hK hP 0 rfl rfl 1 (by decide) (hts _ w_1) (fun _ h9 => h9) rfl d_Row_same_22 ?_
      refine lv_aload_n hx hb d_Row_same_25 rfl (lv_at hl 1 rfl) ?_
      refine va_get (D := (dC, dI)) (ci := 1) (v := .ref ra) (C := R_Row) (T := T_Row) (N := 2) hx hb hts w_0 hown hK hP 0 rfl rfl 0 (by decide) (hts _ w_2) (fun _ h9 => h9) rfl d_Row_same_26 ?_
      refine va_alen (v := (Int32.ofNat rL)) hx hb hK hP 1 0 rfl rfl rfl d_Row_same_29 ?_
      refine lv_icmp_le (tgt := 35) hx hb d_Row_same_30 (by decide) (fun c_30 => ?_) (fun c_30 => ?_)
      · have hf := br_pos c_30 hf
        refine lv_iconst (v := 0) hx hb d_Row_same_35 (by decide) ?_
        refine lv_istore (lv' := [(5, .int (0 : Int32)), (4, .int ((mn x3 rn) - x2)), (0, .ref r), (1, .int x1), (2, .int x2), (3, .int x3)]) hx hb d_Row_same_36 hl (by decide) rfl (fun ls hl => ?_)
        exact k_Row_same_38 C hK hA x1 x2 ((mn x3 rn) - x2) rn rf  N (0 : Int32) hf _ _ hP hD hS _ (lv_sub hl [2, 3, 4, 1, 0] rfl)
      · have hf := br_neg c_30 hf
        refine lv_iconst (v := 0) hx hb d_Row_same_33 (by decide) ?_
        cases hf
        exact s_iret hx hb hr hlocks hP hK hD hS d_Row_same_34
end
noncomputable abbrev f_Row_same (N : Nat) (rL : Nat) (x1 : Int32) (x2 : Int32) (x3 : Int32) (rn : Int32) (rf : Nat → Int32) : Option (Int32) := j_Row_same_0 N rL x1 x2 x3 rn rf
set_option maxRecDepth 100000 in
theorem c_Row_same {N : Nat} (l : Launch) (dC : Nat → ClassId) (dI : Nat → Nat → Nat) (cB cI cJ : ClassId) (r ra rL : Nat) (rn : Int32) (rf : Nat → Int32) (x1 : Int32) (x2 : Int32) (x3 : Int32) {r_z : Int32} (hf : f_Row_same N rL x1 x2 x3 rn rf = some r_z) : MetI l y_Row_same ws_Row_same rm_Row_same (dC, dI) vwCl [(cB, .byte), (cI, .int), (cJ, .long)] [.ref r, .int x1, .int x2, .int x3] (wd_Row_same r ra cB cI cJ rL rn rf) r_z (wd_Row_same r ra cB cI cJ rL rn rf) 0 0 :=
  s_ofi (bytes := cd_Row_same) (maxL := 6) (ret := (some .int)) (by decide) rfl (Nat.le_of_ble_eq_true rfl) (fun p e s m below meth c A ls C hK hA hP hD hS hl => k_Row_same_0 C hK hA x1 x2 x3 rn rf hf hP hD hS (lv_sub hl [0, 1, 2, 3] rfl))
