abbrev wd_Mat_hold (mt d la ea : Nat) (cB cI cJ : ClassId) (mc : Int32) (ms : Int32) (ml : Int32) : va_W := [(mt, .inr (3, [.ref d, .ref la, .ref ea, .int mc, .int ms, .int ml]))]
abbrev rm_Mat_hold : Room := { frames := 0, cells := 0, slots := 0, locals := 0 }
section
variable {p : Program} {l : Launch} {e : Env} {s : State} {m : MethodId} {args : Array Value} {below : List Frame} {meth : Method} {c : Code} {dC : Nat → ClassId} {dI : Nat → Nat → Nat} {A : Nat → Prop} {cB cI cJ : ClassId} {H : Heap} {locs : List Loc} {ls : Array Slot} {N : Nat} {mt d la ea : Nat}
noncomputable def j_Mat_hold_31 (x1 : Int32) (x2 : Int32) (t0 : Int32) (ms : Int32) (ml : Int32)  : Option (Int32 × Int32) :=
  (if x2 < (4 : Int32) then (some (ms, ml) : Option (Int32 × Int32)) else (if t0 = 0 then (some (ms, ml) : Option (Int32 × Int32)) else (some (x1, x2) : Option (Int32 × Int32))))
set_option maxHeartbeats 4000000 in
set_option maxRecDepth 100000 in
theorem k_Mat_hold_31 {ms_z : Int32} {ml_z : Int32} (C : Fx p s m args meth c cd_Mat_hold 6 R_Mat lw_g none) (hK : va_K (dC, dI) vwCl [(cB, .byte), (cI, .int), (cJ, .long)] s) (hA : ∀ q, s.heap.size ≤ q → A q) (x1 : Int32) (x2 : Int32) (t0 : Int32) (mc : Int32) (ms : Int32) (ml : Int32)  (hf : j_Mat_hold_31 x1 x2 t0 ms ml  = some (ms_z, ml_z)) (hP : va_P (dC, dI) vwCl (wd_Mat_hold mt d la ea cB cI cJ mc ms ml) H) (hD : va_D A (wd_Mat_hold mt d la ea cB cI cJ mc ms ml)) (hS : va_S A s.heap H locs) (hl : lv_has ls 6 [(0, .ref mt), (1, .int x1), (2, .int x2)]) : W p l e rm_Mat_hold s m args below meth c H locs 0 0 (MQ below (sQv (dC, dI) vwCl [(cB, .byte), (cI, .int), (cJ, .long)] A (wd_Mat_hold mt d la ea cB cI cJ mc ms_z ml_z)) args s 0 0 A) (F0 m 31 ls [.int t0]) := by
  obtain ⟨hx, hb, hml, hown, hts, hr, hlocks, hZ⟩ := id C
  unfold j_Mat_hold_31 at hf
  refine lv_istore (lv' := [(5, .int t0), (0, .ref mt), (1, .int x1), (2, .int x2)]) hx hb d_Mat_hold_31 hl (by decide) rfl (fun ls hl => ?_)
  refine lv_iload_n hx hb d_Mat_hold_33 rfl (lv_at hl 3 rfl) ?_
  refine lv_iconst (v := 4) hx hb d_Mat_hold_34 (by decide) ?_
  refine lv_icmp_lt (tgt := 53) hx hb d_Mat_hold_35 (by decide) (fun c_35 => ?_) (fun c_35 => ?_)
  · have hf := br_pos c_35 hf
    cases hf
    exact s_vret hx hb hr hlocks hP hK hD hS d_Mat_hold_53
  · have hf := br_neg c_35 hf
    refine lv_iload hx hb d_Mat_hold_38 (lv_at hl 0 rfl) ?_
    refine lv_if_eq (tgt := 53) hx hb d_Mat_hold_40 (by decide) (fun c_40 => ?_) (fun c_40 => ?_)
    · have hf := br_pos c_40 hf
      cases hf
      exact s_vret hx hb hr hlocks hP hK hD hS d_Mat_hold_53
    · have hf := br_neg c_40 hf
      refine lv_aload_n hx hb d_Mat_hold_43 rfl (lv_at hl 1 rfl) ?_
      refine lv_iload_n hx hb d_Mat_hold_44 rfl (lv_at hl 2 rfl) ?_
      refine va_put (D := (dC, dI)) (ci := 3) (v := .int x1) (ty := .int) (C := R_Mat) (T := T_Mat) (N := 6) hx hb hts w_53 ty_Mat ty_Mat_ok nm_Mat hown hK hP hD hS 0 rfl rfl 4 (by decide) (hts _ w_67) (fun _ h9 => h9) rfl (by decide +kernel) rfl rfl (Nat.le_of_ble_eq_true rfl) d_Mat_hold_45 (fun H locs hP hD hS => ?_)
      have hP : va_P (dC, dI) vwCl (wd_Mat_hold mt d la ea cB cI cJ mc x1 ml) H := hP
      have hD : va_D A (wd_Mat_hold mt d la ea cB cI cJ mc x1 ml) := hD
      refine lv_aload_n hx hb d_Mat_hold_48 rfl (lv_at hl 1 rfl) ?_
      refine lv_iload_n hx hb d_Mat_hold_49 rfl (lv_at hl 3 rfl) ?_
      refine va_put (D := (dC, dI)) (ci := 3) (v := .int x2) (ty := .int) (C := R_Mat) (T := T_Mat) (N := 6) hx hb hts w_53 ty_Mat ty_Mat_ok nm_Mat hown hK hP hD hS 0 rfl rfl 5 (by decide) (hts _ w_66) (fun _ h9 => h9) rfl (by decide +kernel) rfl rfl (Nat.le_of_ble_eq_true rfl) d_Mat_hold_50 (fun H locs hP hD hS => ?_)
      have hP : va_P (dC, dI) vwCl (wd_Mat_hold mt d la ea cB cI cJ mc x1 x2) H := hP
      have hD : va_D A (wd_Mat_hold mt d la ea cB cI cJ mc x1 x2) := hD
      cases hf
      exact s_vret hx hb hr hlocks hP hK hD hS d_Mat_hold_53
noncomputable def j_Mat_hold_26 (x1 : Int32) (x2 : Int32) (ms : Int32) (ml : Int32)  : Option (Int32 × Int32) :=
  (j_Mat_hold_31 x1 x2 (1 : Int32) ms ml )
set_option maxHeartbeats 4000000 in
set_option maxRecDepth 100000 in
theorem k_Mat_hold_26 {ms_z : Int32} {ml_z : Int32} (C : Fx p s m args meth c cd_Mat_hold 6 R_Mat lw_g none) (hK : va_K (dC, dI) vwCl [(cB, .byte), (cI, .int), (cJ, .long)] s) (hA : ∀ q, s.heap.size ≤ q → A q) (x1 : Int32) (x2 : Int32) (mc : Int32) (ms : Int32) (ml : Int32)  (hf : j_Mat_hold_26 x1 x2 ms ml  = some (ms_z, ml_z)) (hP : va_P (dC, dI) vwCl (wd_Mat_hold mt d la ea cB cI cJ mc ms ml) H) (hD : va_D A (wd_Mat_hold mt d la ea cB cI cJ mc ms ml)) (hS : va_S A s.heap H locs) (hl : lv_has ls 6 [(0, .ref mt), (1, .int x1), (2, .int x2)]) : W p l e rm_Mat_hold s m args below meth c H locs 0 0 (MQ below (sQv (dC, dI) vwCl [(cB, .byte), (cI, .int), (cJ, .long)] A (wd_Mat_hold mt d la ea cB cI cJ mc ms_z ml_z)) args s 0 0 A) (F0 m 26 ls []) := by
  obtain ⟨hx, hb, hml, hown, hts, hr, hlocks, hZ⟩ := id C
  unfold j_Mat_hold_26 at hf
  refine lv_iconst (v := 1) hx hb d_Mat_hold_26 (by decide) ?_
  refine lv_goto (tgt := 31) hx hb d_Mat_hold_27 (by decide) ?_
  exact k_Mat_hold_31 C hK hA x1 x2 (1 : Int32) mc ms ml  hf hP hD hS (lv_sub hl [0, 1, 2] rfl)
noncomputable def j_Mat_hold_30 (x1 : Int32) (x2 : Int32) (ms : Int32) (ml : Int32)  : Option (Int32 × Int32) :=
  (j_Mat_hold_31 x1 x2 (0 : Int32) ms ml )
set_option maxHeartbeats 4000000 in
set_option maxRecDepth 100000 in
theorem k_Mat_hold_30 {ms_z : Int32} {ml_z : Int32} (C : Fx p s m args meth c cd_Mat_hold 6 R_Mat lw_g none) (hK : va_K (dC, dI) vwCl [(cB, .byte), (cI, .int), (cJ, .long)] s) (hA : ∀ q, s.heap.size ≤ q → A q) (x1 : Int32) (x2 : Int32) (mc : Int32) (ms : Int32) (ml : Int32)  (hf : j_Mat_hold_30 x1 x2 ms ml  = some (ms_z, ml_z)) (hP : va_P (dC, dI) vwCl (wd_Mat_hold mt d la ea cB cI cJ mc ms ml) H) (hD : va_D A (wd_Mat_hold mt d la ea cB cI cJ mc ms ml)) (hS : va_S A s.heap H locs) (hl : lv_has ls 6 [(0, .ref mt), (1, .int x1), (2, .int x2)]) : W p l e rm_Mat_hold s m args below meth c H locs 0 0 (MQ below (sQv (dC, dI) vwCl [(cB, .byte), (cI, .int), (cJ, .long)] A (wd_Mat_hold mt d la ea cB cI cJ mc ms_z ml_z)) args s 0 0 A) (F0 m 30 ls []) := by
  obtain ⟨hx, hb, hml, hown, hts, hr, hlocks, hZ⟩ := id C
  unfold j_Mat_hold_30 at hf
  refine lv_iconst (v := 0) hx hb d_Mat_hold_30 (by decide) ?_
  exact k_Mat_hold_31 C hK hA x1 x2 (0 : Int32) mc ms ml  hf hP hD hS (lv_sub hl [0, 1, 2] rfl)
noncomputable def j_Mat_hold_0 (x1 : Int32) (x2 : Int32) (x3 : Int32) (x4 : Int32) (ms : Int32) (ml : Int32)  : Option (Int32 × Int32) :=
  (if ml = 0 then (j_Mat_hold_26 x1 x2 ms ml ) else (if x3 ≤ x2 then (j_Mat_hold_26 x1 x2 ms ml ) else (if x4 < (2 : Int32) then (j_Mat_hold_30 x1 x2 ms ml ) else (if x2 ≤ ml then (j_Mat_hold_30 x1 x2 ms ml ) else (j_Mat_hold_26 x1 x2 ms ml )))))
set_option maxHeartbeats 4000000 in
set_option maxRecDepth 100000 in
theorem k_Mat_hold_0 {ms_z : Int32} {ml_z : Int32} (C : Fx p s m args meth c cd_Mat_hold 6 R_Mat lw_g none) (hK : va_K (dC, dI) vwCl [(cB, .byte), (cI, .int), (cJ, .long)] s) (hA : ∀ q, s.heap.size ≤ q → A q) (x1 : Int32) (x2 : Int32) (x3 : Int32) (x4 : Int32) (mc : Int32) (ms : Int32) (ml : Int32)  (hf : j_Mat_hold_0 x1 x2 x3 x4 ms ml  = some (ms_z, ml_z)) (hP : va_P (dC, dI) vwCl (wd_Mat_hold mt d la ea cB cI cJ mc ms ml) H) (hD : va_D A (wd_Mat_hold mt d la ea cB cI cJ mc ms ml)) (hS : va_S A s.heap H locs) (hl : lv_has ls 6 [(0, .ref mt), (1, .int x1), (2, .int x2), (3, .int x3), (4, .int x4)]) : W p l e rm_Mat_hold s m args below meth c H locs 0 0 (MQ below (sQv (dC, dI) vwCl [(cB, .byte), (cI, .int), (cJ, .long)] A (wd_Mat_hold mt d la ea cB cI cJ mc ms_z ml_z)) args s 0 0 A) (F0 m 0 ls []) := by
  obtain ⟨hx, hb, hml, hown, hts, hr, hlocks, hZ⟩ := id C
  unfold j_Mat_hold_0 at hf
  refine lv_aload_n hx hb d_Mat_hold_0 rfl (lv_at hl 0 rfl) ?_
  refine va_get (D := (dC, dI)) (ci := 3) (v := .int ml) (C := R_Mat) (T := T_Mat) (N := 6) hx hb hts w_53 hown hK hP 0 rfl rfl 5 (by decide) (hts _ w_66) (fun _ h9 => h9) rfl d_Mat_hold_1 ?_
  refine lv_if_eq (tgt := 26) hx hb d_Mat_hold_4 (by decide) (fun c_4 => ?_) (fun c_4 => ?_)
  · have hf := br_pos c_4 hf
    exact k_Mat_hold_26 C hK hA x1 x2 mc ms ml  hf hP hD hS (lv_sub hl [0, 1, 2] rfl)
  · have hf := br_neg c_4 hf
    refine lv_iload_n hx hb d_Mat_hold_7 rfl (lv_at hl 2 rfl) ?_
    refine lv_iload_n hx hb d_Mat_hold_8 rfl (lv_at hl 3 rfl) ?_
    refine lv_icmp_ge (tgt := 26) hx hb d_Mat_hold_9 (by decide) (fun c_9 => ?_) (fun c_9 => ?_)
    · have hf := br_pos c_9 hf
      exact k_Mat_hold_26 C hK hA x1 x2 mc ms ml  hf hP hD hS (lv_sub hl [0, 1, 2] rfl)
    · have hf := br_neg c_9 hf
      refine lv_iload hx hb d_Mat_hold_12 (lv_at hl 4 rfl) ?_
      refine lv_iconst (v := 2) hx hb d_Mat_hold_14 (by decide) ?_
      refine lv_icmp_lt (tgt := 30) hx hb d_Mat_hold_15 (by decide) (fun c_15 => ?_) (fun c_15 => ?_)
      · have hf := br_pos c_15 hf
        exact k_Mat_hold_30 C hK hA x1 x2 mc ms ml  hf hP hD hS (lv_sub hl [0, 1, 2] rfl)
      · have hf := br_neg c_15 hf
        refine lv_iload_n hx hb d_Mat_hold_18 rfl (lv_at hl 2 rfl) ?_
        refine lv_aload_n hx hb d_Mat_hold_19 rfl (lv_at hl 0 rfl) ?_
        refine va_get (D := (dC, dI)) (ci := 3) (v := .int ml) (C := R_Mat) (T := T_Mat) (N := 6) hx hb hts w_53 hown hK hP 0 rfl rfl 5 (by decide) (hts _ w_66) (fun _ h9 => h9) rfl d_Mat_hold_20 ?_
        refine lv_icmp_le (tgt := 30) hx hb d_Mat_hold_23 (by decide) (fun c_23 => ?_) (fun c_23 => ?_)
        · have hf := br_pos c_23 hf
          exact k_Mat_hold_30 C hK hA x1 x2 mc ms ml  hf hP hD hS (lv_sub hl [0, 1, 2] rfl)
        · have hf := br_neg c_23 hf
          exact k_Mat_hold_26 C hK hA x1 x2 mc ms ml  hf hP hD hS (lv_sub hl [0, 1, 2] rfl)
end
noncomputable abbrev f_Mat_hold (x1 : Int32) (x2 : Int32) (x3 : Int32) (x4 : Int32) (ms : Int32) (ml : Int32) : Option (Int32 × Int32) := j_Mat_hold_0 x1 x2 x3 x4 ms ml
set_option maxRecDepth 100000 in
theorem c_Mat_hold (l : Launch) (dC : Nat → ClassId) (dI : Nat → Nat → Nat) (cB cI cJ : ClassId) (mt d la ea : Nat) (mc : Int32) (ms : Int32) (ml : Int32) (x1 : Int32) (x2 : Int32) (x3 : Int32) (x4 : Int32) {ms_z : Int32} {ml_z : Int32} (hf : f_Mat_hold x1 x2 x3 x4 ms ml = some (ms_z, ml_z)) : MetV l y_Mat_hold ws_Mat_hold rm_Mat_hold (dC, dI) vwCl [(cB, .byte), (cI, .int), (cJ, .long)] [.ref mt, .int x1, .int x2, .int x3, .int x4] (wd_Mat_hold mt d la ea cB cI cJ mc ms ml)  (wd_Mat_hold mt d la ea cB cI cJ mc ms_z ml_z) 0 0 :=
  s_ofv (bytes := cd_Mat_hold) (maxL := 6) (ret := none) (by decide) rfl (Nat.le_of_ble_eq_true rfl) (fun p e s m below meth c A ls C hK hA hP hD hS hl => k_Mat_hold_0 C hK hA x1 x2 x3 x4 mc ms ml hf hP hD hS (lv_sub hl [0, 1, 2, 3, 4] rfl))
