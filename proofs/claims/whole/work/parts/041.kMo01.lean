abbrev wd_Mo_areFlags (cB cI cJ : ClassId) : va_W := []
abbrev rm_Mo_areFlags : Room := { frames := 0, cells := 0, slots := 0, locals := 0 }
section
variable {p : Program} {l : Launch} {e : Env} {s : State} {m : MethodId} {args : Array Value} {below : List Frame} {meth : Method} {c : Code} {dC : Nat → ClassId} {dI : Nat → Nat → Nat} {A : Nat → Prop} {cB cI cJ : ClassId} {H : Heap} {locs : List Loc} {ls : Array Slot} {N : Nat} 
noncomputable def j_Mo_areFlags_0 (x0 : Int32)  : Option (Int32) :=
  (if x0 < (64 : Int32) then (some (0 : Int32) : Option (Int32)) else (if (128 : Int32) ≤ x0 then (some (0 : Int32) : Option (Int32)) else (if (x0 &&& (2 : Int32)) = 0 then (some (1 : Int32) : Option (Int32)) else (some (0 : Int32) : Option (Int32)))))
set_option maxHeartbeats 4000000 in
set_option maxRecDepth 100000 in
theorem k_Mo_areFlags_0 {r_z : Int32} (C : Fx p s m args meth c cd_Mo_areFlags 1 R_Mo lw_g (some .boolean)) (hK : va_K (dC, dI) vwCl [(cB, .byte), (cI, .int), (cJ, .long)] s) (hA : ∀ q, s.heap.size ≤ q → A q) (x0 : Int32)  (hf : j_Mo_areFlags_0 x0  = some r_z) (hP : va_P (dC, dI) vwCl (wd_Mo_areFlags cB cI cJ) H) (hD : va_D A (wd_Mo_areFlags cB cI cJ)) (hS : va_S A s.heap H locs) (hl : lv_has ls 1 [(0, .int x0)]) : W p l e rm_Mo_areFlags s m args below meth c H locs 0 0 (MQ below (sQi (dC, dI) vwCl [(cB, .byte), (cI, .int), (cJ, .long)] A r_z (wd_Mo_areFlags cB cI cJ)) args s 0 0 A) (F0 m 0 ls []) := by
  obtain ⟨hx, hb, hml, hown, hts, hr, hlocks, hZ⟩ := id C
  unfold j_Mo_areFlags_0 at hf
  refine lv_iload_n hx hb d_Mo_areFlags_0 rfl (lv_at hl 0 rfl) ?_
  refine lv_bipush (v := 64) hx hb d_Mo_areFlags_1 (by decide) ?_
  refine lv_icmp_lt (tgt := 23) hx hb d_Mo_areFlags_3 (by decide) (fun c_3 => ?_) (fun c_3 => ?_)
  · have hf := br_pos c_3 hf
    refine lv_iconst (v := 0) hx hb d_Mo_areFlags_23 (by decide) ?_
    cases hf
    exact s_zret hx hb hr (by decide) hlocks hP hK hD hS d_Mo_areFlags_24
  · have hf := br_neg c_3 hf
    refine lv_iload_n hx hb d_Mo_areFlags_6 rfl (lv_at hl 0 rfl) ?_
    refine lv_sipush (v := 128) hx hb d_Mo_areFlags_7 (by decide) ?_
    refine lv_icmp_ge (tgt := 23) hx hb d_Mo_areFlags_10 (by decide) (fun c_10 => ?_) (fun c_10 => ?_)
    · have hf := br_pos c_10 hf
      refine lv_iconst (v := 0) hx hb d_Mo_areFlags_23 (by decide) ?_
      cases hf
      exact s_zret hx hb hr (by decide) hlocks hP hK hD hS d_Mo_areFlags_24
    · have hf := br_neg c_10 hf
      refine lv_iload_n hx hb d_Mo_areFlags_13 rfl (lv_at hl 0 rfl) ?_
      refine lv_iconst (v := 2) hx hb d_Mo_areFlags_14 (by decide) ?_
      refine lv_iand hx hb d_Mo_areFlags_15 ?_
      refine lv_if_ne (tgt := 23) hx hb d_Mo_areFlags_16 (by decide) (fun c_16 => ?_) (fun c_16 => ?_)
      · have hf := br_neg c_16 hf
        refine lv_iconst (v := 0) hx hb d_Mo_areFlags_23 (by decide) ?_
        cases hf
        exact s_zret hx hb hr (by decide) hlocks hP hK hD hS d_Mo_areFlags_24
      · have hf := br_pos c_16 hf
        refine lv_iconst (v := 1) hx hb d_Mo_areFlags_19 (by decide) ?_
        refine lv_goto (tgt := 24) hx hb d_Mo_areFlags_20 (by decide) ?_
        cases hf
        exact s_zret hx hb hr (by decide) hlocks hP hK hD hS d_Mo_areFlags_24
end
noncomputable abbrev f_Mo_areFlags (x0 : Int32) : Option (Int32) := j_Mo_areFlags_0 x0
set_option maxRecDepth 100000 in
theorem c_Mo_areFlags (l : Launch) (dC : Nat → ClassId) (dI : Nat → Nat → Nat) (cB cI cJ : ClassId)   (x0 : Int32) {r_z : Int32} (hf : f_Mo_areFlags x0 = some r_z) : MetI l y_Mo_areFlags ws_Mo_areFlags rm_Mo_areFlags (dC, dI) vwCl [(cB, .byte), (cI, .int), (cJ, .long)] [.int x0] (wd_Mo_areFlags cB cI cJ) r_z (wd_Mo_areFlags cB cI cJ) 0 0 :=
  s_ofi (bytes := cd_Mo_areFlags) (maxL := 1) (ret := (some .boolean)) (by decide) rfl (Nat.le_of_ble_eq_true rfl) (fun p e s m below meth c A ls C hK hA hP hD hS hl => k_Mo_areFlags_0 C hK hA x0 hf hP hD hS (lv_sub hl [0] rfl))

abbrev wd_Mo_begin (w wh wd wi wo wm wp wb wc wl : Nat) (cB cI cJ : ClassId) (win : Int32) (won : Int32) (whn : Int32) (wpl : Int32) (wdn : Int32) (wfo : Int32) (wmn : Int32) (wpn : Int32) (wbn : Int32) (wcn : Int32) (wat : Int32) (wnu : Int32) (whf : Nat → Int32) (wdf : Nat → Int32) : va_W := [(w, .inr (7, [.ref wi, .ref wo, .ref wh, .int win, .int won, .int whn, .int wpl, .ref wd, .int wdn, .int wfo, .ref wm, .int wmn, .ref wp, .int wpn, .ref wb, .int wbn, .ref wc, .int wcn, .ref wl, .int wat, .int wnu])), (wh, .inl (cI, 8000, .inl whf)), (wd, .inl (cI, 16000, .inl wdf))]
abbrev rm_Mo_begin : Room := { frames := 0, cells := 0, slots := 0, locals := 0 }
section
variable {p : Program} {l : Launch} {e : Env} {s : State} {m : MethodId} {args : Array Value} {below : List Frame} {meth : Method} {c : Code} {dC : Nat → ClassId} {dI : Nat → Nat → Nat} {A : Nat → Prop} {cB cI cJ : ClassId} {H : Heap} {locs : List Loc} {ls : Array Slot} {N : Nat} {w wh wd wi wo wm wp wb wc wl : Nat}
noncomputable def b_Mo_begin_2 (whn : Int32) (whf : Nat → Int32)  (kh2 : Int32 → (Nat → Int32) → Option (Int32 × (Nat → Int32))) (x1 : Int32) (wdf : Nat → Int32) : Option (Int32 × (Nat → Int32)) :=
  (if whn ≤ x1 then (some (whn, wdf) : Option (Int32 × (Nat → Int32))) else as_ (vp_in x1 8000) (as_ (vp_in x1 16000) ((kh2 (x1 + 1) (upd wdf x1.toNatClampNeg (whf x1.toNatClampNeg))))))
set_option maxHeartbeats 4000000 in
set_option maxRecDepth 100000 in
theorem k_Mo_begin_2 {wdn_z : Int32} {wdf_z : Nat → Int32} (C : Fx p s m args meth c cd_Mo_begin 2 R_Mo lw_g none) (hK : va_K (dC, dI) vwCl [(cB, .byte), (cI, .int), (cJ, .long)] s) (hA : ∀ q, s.heap.size ≤ q → A q) (win : Int32) (won : Int32) (whn : Int32) (wpl : Int32) (wdn : Int32) (wfo : Int32) (wmn : Int32) (wpn : Int32) (wbn : Int32) (wcn : Int32) (wat : Int32) (wnu : Int32) (whf : Nat → Int32)  : ∀ (n : Nat) (x1 : Int32) (wdf : Nat → Int32), loop2 (b_Mo_begin_2 whn whf ) n x1 wdf = some (wdn_z, wdf_z) → ∀ (H : Heap) (locs : List Loc), va_P (dC, dI) vwCl (wd_Mo_begin w wh wd wi wo wm wp wb wc wl cB cI cJ win won whn wpl wdn wfo wmn wpn wbn wcn wat wnu whf wdf) H → va_D A (wd_Mo_begin w wh wd wi wo wm wp wb wc wl cB cI cJ win won whn wpl wdn wfo wmn wpn wbn wcn wat wnu whf wdf) → va_S A s.heap H locs → ∀ (ls : Array Slot), lv_has ls 2 [(0, .ref w), (1, .int x1)] → W p l e rm_Mo_begin s m args below meth c H locs 0 0 (MQ below (sQv (dC, dI) vwCl [(cB, .byte), (cI, .int), (cJ, .long)] A (wd_Mo_begin w wh wd wi wo wm wp wb wc wl cB cI cJ win won whn wpl wdn_z wfo wmn wpn wbn wcn wat wnu whf wdf_z)) args s 0 0 A) (F0 m 2 ls []) := by
  obtain ⟨hx, hb, hml, hown, hts, hr, hlocks, hZ⟩ := id C
  intro n
  induction n with
  | zero => intro x1 wdf hf; cases hf
  | succ n ih2 =>
    intro x1 wdf hf H locs hP hD hS ls hl
    have hf : b_Mo_begin_2 whn whf  (loop2 (b_Mo_begin_2 whn whf ) n) x1 wdf = some (wdn_z, wdf_z) := hf
    generalize loop2 (b_Mo_begin_2 whn whf ) n = kh2 at hf ih2
    unfold b_Mo_begin_2 at hf
    refine lv_iload_n hx hb d_Mo_begin_2 rfl (lv_at hl 1 rfl) ?_
    refine lv_aload_n hx hb d_Mo_begin_3 rfl (lv_at hl 0 rfl) ?_
    refine va_get (D := (dC, dI)) (ci := 7) (v := .int whn) (C := R_Mo) (T := T_Mo) (N := 21) hx hb hts w_359 hown hK hP 0 rfl rfl 5 (by decide) (hts _ w_373) (fun _ h9 => h9) rfl d_Mo_begin_4 ?_
    refine lv_icmp_ge (tgt := 28) hx hb d_Mo_begin_7 (by decide) (fun c_7 => ?_) (fun c_7 => ?_)
    · have hf := br_pos c_7 hf
      refine lv_aload_n hx hb d_Mo_begin_28 rfl (lv_at hl 0 rfl) ?_
      refine lv_aload_n hx hb d_Mo_begin_29 rfl (lv_at hl 0 rfl) ?_
      refine va_get (D := (dC, dI)) (ci := 7) (v := .int whn) (C := R_Mo) (T := T_Mo) (N := 21) hx hb hts w_359 hown hK hP 0 rfl rfl 5 (by decide) (hts _ w_373) (fun _ h9 => h9) rfl d_Mo_begin_30 ?_
      refine va_put (D := (dC, dI)) (ci := 7) (v := .int whn) (ty := .int) (C := R_Mo) (T := T_Mo) (N := 21) hx hb hts w_359 ty_Mo ty_Mo_ok nm_Mo hown hK hP hD hS 0 rfl rfl 8 (by decide) (hts _ w_372) (fun _ h9 => h9) rfl (by decide +kernel) rfl rfl (Nat.le_of_ble_eq_true rfl) d_Mo_begin_33 (fun H locs hP hD hS => ?_)
      have hP : va_P (dC, dI) vwCl (wd_Mo_begin w wh wd wi wo wm wp wb wc wl cB cI cJ win won whn wpl whn wfo wmn wpn wbn wcn wat wnu whf wdf) H := hP
      have hD : va_D A (wd_Mo_begin w wh wd wi wo wm wp wb wc wl cB cI cJ win won whn wpl whn wfo wmn wpn wbn wcn wat wnu whf wdf) := hD
      cases hf
      exact s_vret hx hb hr hlocks hP hK hD hS d_Mo_begin_36
    · have hf := br_neg c_7 hf
      refine lv_aload_n hx hb d_Mo_begin_10 rfl (lv_at hl 0 rfl) ?_
      refine va_get (D := (dC, dI)) (ci := 7) (v := .ref wd) (C := R_Mo) (T := T_Mo) (N := 21) hx hb hts w_359 hown hK hP 0 rfl rfl 7 (by decide) (hts _ w_371) (fun _ h9 => h9) rfl d_Mo_begin_11 ?_
      refine lv_iload_n hx hb d_Mo_begin_14 rfl (lv_at hl 1 rfl) ?_
      refine lv_aload_n hx hb d_Mo_begin_15 rfl (lv_at hl 0 rfl) ?_
      refine va_get (D := (dC, dI)) (ci := 7) (v := .ref wh) (C := R_Mo) (T := T_Mo) (N := 21) hx hb hts w_359 hown hK hP 0 rfl rfl 2 (by decide) (hts _ w_374) (fun _ h9 => h9) rfl d_Mo_begin_16 ?_
      refine lv_iload_n hx hb d_Mo_begin_19 rfl (lv_at hl 1 rfl) ?_
      obtain ⟨h_in, hf⟩ := as_some hf
      refine va_iald hx hb hK hP 1 1 rfl rfl h_in d_Mo_begin_20 ?_
      obtain ⟨h_in, hf⟩ := as_some hf
      refine va_iast hx hb hK hP hD hS 2 1 rfl rfl h_in d_Mo_begin_21 (fun H locs hP hD hS => ?_)
      have hP : va_P (dC, dI) vwCl (wd_Mo_begin w wh wd wi wo wm wp wb wc wl cB cI cJ win won whn wpl wdn wfo wmn wpn wbn wcn wat wnu whf (upd wdf x1.toNatClampNeg (whf x1.toNatClampNeg))) H := hP
      have hD : va_D A (wd_Mo_begin w wh wd wi wo wm wp wb wc wl cB cI cJ win won whn wpl wdn wfo wmn wpn wbn wcn wat wnu whf (upd wdf x1.toNatClampNeg (whf x1.toNatClampNeg))) := hD
      refine lv_iinc (v := (x1 + 1)) (lv' := [(1, .int (x1 + 1)), (0, .ref w)]) hx hb d_Mo_begin_22 hl (k := 1) rfl (congrArg (fun z => x1 + z) (by decide)) (by decide) rfl (fun ls hl => ?_)
      refine lv_goto (tgt := 2) hx hb d_Mo_begin_25 (by decide) ?_
      exact ih2 (x1 + 1) (upd wdf x1.toNatClampNeg (whf x1.toNatClampNeg)) hf _ _ hP hD hS _ (lv_sub hl [1, 0] rfl)
noncomputable def j_Mo_begin_0 (N : Nat) (whn : Int32) (whf : Nat → Int32) (wdf : Nat → Int32)  : Option (Int32 × (Nat → Int32)) :=
  (loop2 (b_Mo_begin_2 whn whf ) N (0 : Int32) wdf)
set_option maxHeartbeats 4000000 in
set_option maxRecDepth 100000 in
theorem k_Mo_begin_0 {wdn_z : Int32} {wdf_z : Nat → Int32} (C : Fx p s m args meth c cd_Mo_begin 2 R_Mo lw_g none) (hK : va_K (dC, dI) vwCl [(cB, .byte), (cI, .int), (cJ, .long)] s) (hA : ∀ q, s.heap.size ≤ q → A q) (win : Int32) (won : Int32) (whn : Int32) (wpl : Int32) (wdn : Int32) (wfo : Int32) (wmn : Int32) (wpn : Int32) (wbn : Int32) (wcn : Int32) (wat : Int32) (wnu : Int32) (whf : Nat → Int32) (wdf : Nat → Int32)  (hf : j_Mo_begin_0 N whn whf wdf  = some (wdn_z, wdf_z)) (hP : va_P (dC, dI) vwCl (wd_Mo_begin w wh wd wi wo wm wp wb wc wl cB cI cJ win won whn wpl wdn wfo wmn wpn wbn wcn wat wnu whf wdf) H) (hD : va_D A (wd_Mo_begin w wh wd wi wo wm wp wb wc wl cB cI cJ win won whn wpl wdn wfo wmn wpn wbn wcn wat wnu whf wdf)) (hS : va_S A s.heap H locs) (hl : lv_has ls 2 [(0, .ref w)]) : W p l e rm_Mo_begin s m args below meth c H locs 0 0 (MQ below (sQv (dC, dI) vwCl [(cB, .byte), (cI, .int), (cJ, .long)] A (wd_Mo_begin w wh wd wi wo wm wp wb wc wl cB cI cJ win won whn wpl wdn_z wfo wmn wpn wbn wcn wat wnu whf wdf_z)) args s 0 0 A) (F0 m 0 ls []) := by
  obtain ⟨hx, hb, hml, hown, hts, hr, hlocks, hZ⟩ := id C
  unfold j_Mo_begin_0 at hf
  refine lv_iconst (v := 0) hx hb d_Mo_begin_0 (by decide) ?_
  refine lv_istore_n (lv' := [(1, .int (0 : Int32)), (0, .ref w)]) hx hb d_Mo_begin_1 rfl hl (by decide) rfl (fun ls hl => ?_)
  exact k_Mo_begin_2 C hK hA win won whn wpl wdn wfo wmn wpn wbn wcn wat wnu whf  N (0 : Int32) wdf hf _ _ hP hD hS _ (lv_sub hl [1, 0] rfl)
end
noncomputable abbrev f_Mo_begin (N : Nat) (whn : Int32) (whf : Nat → Int32) (wdf : Nat → Int32) : Option (Int32 × (Nat → Int32)) := j_Mo_begin_0 N whn whf wdf
set_option maxRecDepth 100000 in
theorem c_Mo_begin {N : Nat} (l : Launch) (dC : Nat → ClassId) (dI : Nat → Nat → Nat) (cB cI cJ : ClassId) (w wh wd wi wo wm wp wb wc wl : Nat) (win : Int32) (won : Int32) (whn : Int32) (wpl : Int32) (wdn : Int32) (wfo : Int32) (wmn : Int32) (wpn : Int32) (wbn : Int32) (wcn : Int32) (wat : Int32) (wnu : Int32) (whf : Nat → Int32) (wdf : Nat → Int32)  {wdn_z : Int32} {wdf_z : Nat → Int32} (hf : f_Mo_begin N whn whf wdf = some (wdn_z, wdf_z)) : MetV l y_Mo_begin ws_Mo_begin rm_Mo_begin (dC, dI) vwCl [(cB, .byte), (cI, .int), (cJ, .long)] [.ref w] (wd_Mo_begin w wh wd wi wo wm wp wb wc wl cB cI cJ win won whn wpl wdn wfo wmn wpn wbn wcn wat wnu whf wdf)  (wd_Mo_begin w wh wd wi wo wm wp wb wc wl cB cI cJ win won whn wpl wdn_z wfo wmn wpn wbn wcn wat wnu whf wdf_z) 0 0 :=
  s_ofv (bytes := cd_Mo_begin) (maxL := 2) (ret := none) (by decide) rfl (Nat.le_of_ble_eq_true rfl) (fun p e s m below meth c A ls C hK hA hP hD hS hl => k_Mo_begin_0 C hK hA win won whn wpl wdn wfo wmn wpn wbn wcn wat wnu whf wdf hf hP hD hS (lv_sub hl [0] rfl))

abbrev wd_Mo_beginBack (w wh wb wi wo wd wm wp wc wl : Nat) (cB cI cJ : ClassId) (win : Int32) (won : Int32) (whn : Int32) (wpl : Int32) (wdn : Int32) (wfo : Int32) (wmn : Int32) (wpn : Int32) (wbn : Int32) (wcn : Int32) (wat : Int32) (wnu : Int32) (whf : Nat → Int32) (wbf : Nat → Int32) : va_W := [(w, .inr (7, [.ref wi, .ref wo, .ref wh, .int win, .int won, .int whn, .int wpl, .ref wd, .int wdn, .int wfo, .ref wm, .int wmn, .ref wp, .int wpn, .ref wb, .int wbn, .ref wc, .int wcn, .ref wl, .int wat, .int wnu])), (wh, .inl (cI, 8000, .inl whf)), (wb, .inl (cI, 16000, .inl wbf))]
abbrev rm_Mo_beginBack : Room := { frames := 0, cells := 0, slots := 0, locals := 0 }
section
variable {p : Program} {l : Launch} {e : Env} {s : State} {m : MethodId} {args : Array Value} {below : List Frame} {meth : Method} {c : Code} {dC : Nat → ClassId} {dI : Nat → Nat → Nat} {A : Nat → Prop} {cB cI cJ : ClassId} {H : Heap} {locs : List Loc} {ls : Array Slot} {N : Nat} {w wh wb wi wo wd wm wp wc wl : Nat}
noncomputable def b_Mo_beginBack_2 (whn : Int32) (whf : Nat → Int32)  (kh2 : Int32 → (Nat → Int32) → Option (Int32 × (Nat → Int32))) (x1 : Int32) (wbf : Nat → Int32) : Option (Int32 × (Nat → Int32)) :=
  (if whn ≤ x1 then (some (whn, wbf) : Option (Int32 × (Nat → Int32))) else as_ (vp_in x1 8000) (as_ (vp_in x1 16000) ((kh2 (x1 + 1) (upd wbf x1.toNatClampNeg (whf x1.toNatClampNeg))))))
set_option maxHeartbeats 4000000 in
set_option maxRecDepth 100000 in
theorem k_Mo_beginBack_2 {wbn_z : Int32} {wbf_z : Nat → Int32} (C : Fx p s m args meth c cd_Mo_beginBack 2 R_Mo lw_g none) (hK : va_K (dC, dI) vwCl [(cB, .byte), (cI, .int), (cJ, .long)] s) (hA : ∀ q, s.heap.size ≤ q → A q) (win : Int32) (won : Int32) (whn : Int32) (wpl : Int32) (wdn : Int32) (wfo : Int32) (wmn : Int32) (wpn : Int32) (wbn : Int32) (wcn : Int32) (wat : Int32) (wnu : Int32) (whf : Nat → Int32)  : ∀ (n : Nat) (x1 : Int32) (wbf : Nat → Int32), loop2 (b_Mo_beginBack_2 whn whf ) n x1 wbf = some (wbn_z, wbf_z) → ∀ (H : Heap) (locs : List Loc), va_P (dC, dI) vwCl (wd_Mo_beginBack w wh wb wi wo wd wm wp wc wl cB cI cJ win won whn wpl wdn wfo wmn wpn wbn wcn wat wnu whf wbf) H → va_D A (wd_Mo_beginBack w wh wb wi wo wd wm wp wc wl cB cI cJ win won whn wpl wdn wfo wmn wpn wbn wcn wat wnu whf wbf) → va_S A s.heap H locs → ∀ (ls : Array Slot), lv_has ls 2 [(0, .ref w), (1, .int x1)] → W p l e rm_Mo_beginBack s m args below meth c H locs 0 0 (MQ below (sQv (dC, dI) vwCl [(cB, .byte), (cI, .int), (cJ, .long)] A (wd_Mo_beginBack w wh wb wi wo wd wm wp wc wl cB cI cJ win won whn wpl wdn wfo wmn wpn wbn_z wcn wat wnu whf wbf_z)) args s 0 0 A) (F0 m 2 ls []) := by
  obtain ⟨hx, hb, hml, hown, hts, hr, hlocks, hZ⟩ := id C
  intro n
  induction n with
  | zero => intro x1 wbf hf; cases hf
  | succ n ih2 =>
    intro x1 wbf hf H locs hP hD hS ls hl
    have hf : b_Mo_beginBack_2 whn whf  (loop2 (b_Mo_beginBack_2 whn whf ) n) x1 wbf = some (wbn_z, wbf_z) := hf
    generalize loop2 (b_Mo_beginBack_2 whn whf ) n = kh2 at hf ih2
    unfold b_Mo_beginBack_2 at hf
    refine lv_iload_n hx hb d_Mo_beginBack_2 rfl (lv_at hl 1 rfl) ?_
    refine lv_aload_n hx hb d_Mo_beginBack_3 rfl (lv_at hl 0 rfl) ?_
    refine va_get (D := (dC, dI)) (ci := 7) (v := .int whn) (C := R_Mo) (T := T_Mo) (N := 21) hx hb hts w_359 hown hK hP 0 rfl rfl 5 (by decide) (hts _ w_373) (fun _ h9 => h9) rfl d_Mo_beginBack_4 ?_
    refine lv_icmp_ge (tgt := 28) hx hb d_Mo_beginBack_7 (by decide) (fun c_7 => ?_) (fun c_7 => ?_)
    · have hf := br_pos c_7 hf
      refine lv_aload_n hx hb d_Mo_beginBack_28 rfl (lv_at hl 0 rfl) ?_
      refine lv_aload_n hx hb d_Mo_beginBack_29 rfl (lv_at hl 0 rfl) ?_
      refine va_get (D := (dC, dI)) (ci := 7) (v := .int whn) (C := R_Mo) (T := T_Mo) (N := 21) hx hb hts w_359 hown hK hP 0 rfl rfl 5 (by decide) (hts _ w_373) (fun _ h9 => h9) rfl d_Mo_beginBack_30 ?_
      refine va_put (D := (dC, dI)) (ci := 7) (v := .int whn) (ty := .int) (C := R_Mo) (T := T_Mo) (N := 21) hx hb hts w_359 ty_Mo ty_Mo_ok nm_Mo hown hK hP hD hS 0 rfl rfl 15 (by decide) (hts _ w_375) (fun _ h9 => h9) rfl (by decide +kernel) rfl rfl (Nat.le_of_ble_eq_true rfl) d_Mo_beginBack_33 (fun H locs hP hD hS => ?_)
      have hP : va_P (dC, dI) vwCl (wd_Mo_beginBack w wh wb wi wo wd wm wp wc wl cB cI cJ win won whn wpl wdn wfo wmn wpn whn wcn wat wnu whf wbf) H := hP
      have hD : va_D A (wd_Mo_beginBack w wh wb wi wo wd wm wp wc wl cB cI cJ win won whn wpl wdn wfo wmn wpn whn wcn wat wnu whf wbf) := hD
      cases hf
      exact s_vret hx hb hr hlocks hP hK hD hS d_Mo_beginBack_36
    · have hf := br_neg c_7 hf
      refine lv_aload_n hx hb d_Mo_beginBack_10 rfl (lv_at hl 0 rfl) ?_
      refine va_get (D := (dC, dI)) (ci := 7) (v := .ref wb) (C := R_Mo) (T := T_Mo) (N := 21) hx hb hts w_359 hown hK hP 0 rfl rfl 14 (by decide) (hts _ w_376) (fun _ h9 => h9) rfl d_Mo_beginBack_11 ?_
      refine lv_iload_n hx hb d_Mo_beginBack_14 rfl (lv_at hl 1 rfl) ?_
      refine lv_aload_n hx hb d_Mo_beginBack_15 rfl (lv_at hl 0 rfl) ?_
      refine va_get (D := (dC, dI)) (ci := 7) (v := .ref wh) (C := R_Mo) (T := T_Mo) (N := 21) hx hb hts w_359 hown hK hP 0 rfl rfl 2 (by decide) (hts _ w_374) (fun _ h9 => h9) rfl d_Mo_beginBack_16 ?_
      refine lv_iload_n hx hb d_Mo_beginBack_19 rfl (lv_at hl 1 rfl) ?_
      obtain ⟨h_in, hf⟩ := as_some hf
      refine va_iald hx hb hK hP 1 1 rfl rfl h_in d_Mo_beginBack_20 ?_
      obtain ⟨h_in, hf⟩ := as_some hf
      refine va_iast hx hb hK hP hD hS 2 1 rfl rfl h_in d_Mo_beginBack_21 (fun H locs hP hD hS => ?_)
      have hP : va_P (dC, dI) vwCl (wd_Mo_beginBack w wh wb wi wo wd wm wp wc wl cB cI cJ win won whn wpl wdn wfo wmn wpn wbn wcn wat wnu whf (upd wbf x1.toNatClampNeg (whf x1.toNatClampNeg))) H := hP
      have hD : va_D A (wd_Mo_beginBack w wh wb wi wo wd wm wp wc wl cB cI cJ win won whn wpl wdn wfo wmn wpn wbn wcn wat wnu whf (upd wbf x1.toNatClampNeg (whf x1.toNatClampNeg))) := hD
      refine lv_iinc (v := (x1 + 1)) (lv' := [(1, .int (x1 + 1)), (0, .ref w)]) hx hb d_Mo_beginBack_22 hl (k := 1) rfl (congrArg (fun z => x1 + z) (by decide)) (by decide) rfl (fun ls hl => ?_)
      refine lv_goto (tgt := 2) hx hb d_Mo_beginBack_25 (by decide) ?_
      exact ih2 (x1 + 1) (upd wbf x1.toNatClampNeg (whf x1.toNatClampNeg)) hf _ _ hP hD hS _ (lv_sub hl [1, 0] rfl)
noncomputable def j_Mo_beginBack_0 (N : Nat) (whn : Int32) (whf : Nat → Int32) (wbf : Nat → Int32)  : Option (Int32 × (Nat → Int32)) :=
  (loop2 (b_Mo_beginBack_2 whn whf ) N (0 : Int32) wbf)
set_option maxHeartbeats 4000000 in
set_option maxRecDepth 100000 in
theorem k_Mo_beginBack_0 {wbn_z : Int32} {wbf_z : Nat → Int32} (C : Fx p s m args meth c cd_Mo_beginBack 2 R_Mo lw_g none) (hK : va_K (dC, dI) vwCl [(cB, .byte), (cI, .int), (cJ, .long)] s) (hA : ∀ q, s.heap.size ≤ q → A q) (win : Int32) (won : Int32) (whn : Int32) (wpl : Int32) (wdn : Int32) (wfo : Int32) (wmn : Int32) (wpn : Int32) (wbn : Int32) (wcn : Int32) (wat : Int32) (wnu : Int32) (whf : Nat → Int32) (wbf : Nat → Int32)  (hf : j_Mo_beginBack_0 N whn whf wbf  = some (wbn_z, wbf_z)) (hP : va_P (dC, dI) vwCl (wd_Mo_beginBack w wh wb wi wo wd wm wp wc wl cB cI cJ win won whn wpl wdn wfo wmn wpn wbn wcn wat wnu whf wbf) H) (hD : va_D A (wd_Mo_beginBack w wh wb wi wo wd wm wp wc wl cB cI cJ win won whn wpl wdn wfo wmn wpn wbn wcn wat wnu whf wbf)) (hS : va_S A s.heap H locs) (hl : lv_has ls 2 [(0, .ref w)]) : W p l e rm_Mo_beginBack s m args below meth c H locs 0 0 (MQ below (sQv (dC, dI) vwCl [(cB, .byte), (cI, .int), (cJ, .long)] A (wd_Mo_beginBack w wh wb wi wo wd wm wp wc wl cB cI cJ win won whn wpl wdn wfo wmn wpn wbn_z wcn wat wnu whf wbf_z)) args s 0 0 A) (F0 m 0 ls []) := by
  obtain ⟨hx, hb, hml, hown, hts, hr, hlocks, hZ⟩ := id C
  unfold j_Mo_beginBack_0 at hf
  refine lv_iconst (v := 0) hx hb d_Mo_beginBack_0 (by decide) ?_
  refine lv_istore_n (lv' := [(1, .int (0 : Int32)), (0, .ref w)]) hx hb d_Mo_beginBack_1 rfl hl (by decide) rfl (fun ls hl => ?_)
  exact k_Mo_beginBack_2 C hK hA win won whn wpl wdn wfo wmn wpn wbn wcn wat wnu whf  N (0 : Int32) wbf hf _ _ hP hD hS _ (lv_sub hl [1, 0] rfl)
end
noncomputable abbrev f_Mo_beginBack (N : Nat) (whn : Int32) (whf : Nat → Int32) (wbf : Nat → Int32) : Option (Int32 × (Nat → Int32)) := j_Mo_beginBack_0 N whn whf wbf
set_option maxRecDepth 100000 in
theorem c_Mo_beginBack {N : Nat} (l : Launch) (dC : Nat → ClassId) (dI : Nat → Nat → Nat) (cB cI cJ : ClassId) (w wh wb wi wo wd wm wp wc wl : Nat) (win : Int32) (won : Int32) (whn : Int32) (wpl : Int32) (wdn : Int32) (wfo : Int32) (wmn : Int32) (wpn : Int32) (wbn : Int32) (wcn : Int32) (wat : Int32) (wnu : Int32) (whf : Nat → Int32) (wbf : Nat → Int32)  {wbn_z : Int32} {wbf_z : Nat → Int32} (hf : f_Mo_beginBack N whn whf wbf = some (wbn_z, wbf_z)) : MetV l y_Mo_beginBack ws_Mo_beginBack rm_Mo_beginBack (dC, dI) vwCl [(cB, .byte), (cI, .int), (cJ, .long)] [.ref w] (wd_Mo_beginBack w wh wb wi wo wd wm wp wc wl cB cI cJ win won whn wpl wdn wfo wmn wpn wbn wcn wat wnu whf wbf)  (wd_Mo_beginBack w wh wb wi wo wd wm wp wc wl cB cI cJ win won whn wpl wdn wfo wmn wpn wbn_z wcn wat wnu whf wbf_z) 0 0 :=
  s_ofv (bytes := cd_Mo_beginBack) (maxL := 2) (ret := none) (by decide) rfl (Nat.le_of_ble_eq_true rfl) (fun p e s m below meth c A ls C hK hA hP hD hS hl => k_Mo_beginBack_0 C hK hA win won whn wpl wdn wfo wmn wpn wbn wcn wat wnu whf wbf hf hP hD hS (lv_sub hl [0] rfl))

abbrev wd_Mo_show (w wo a wi wh wd wm wp wb wc wl : Nat) (cB cI cJ : ClassId) (aL : Nat) (win : Int32) (won : Int32) (whn : Int32) (wpl : Int32) (wdn : Int32) (wfo : Int32) (wmn : Int32) (wpn : Int32) (wbn : Int32) (wcn : Int32) (wat : Int32) (wnu : Int32) (wof : Nat → Int32) (af : Nat → Int32) : va_W := [(w, .inr (7, [.ref wi, .ref wo, .ref wh, .int win, .int won, .int whn, .int wpl, .ref wd, .int wdn, .int wfo, .ref wm, .int wmn, .ref wp, .int wpn, .ref wb, .int wbn, .ref wc, .int wcn, .ref wl, .int wat, .int wnu])), (wo, .inl (cI, 8000, .inl wof)), (a, .inl (cI, aL, .inl af))]
abbrev rm_Mo_show : Room := { frames := 0, cells := 0, slots := 0, locals := 0 }
section
variable {p : Program} {l : Launch} {e : Env} {s : State} {m : MethodId} {args : Array Value} {below : List Frame} {meth : Method} {c : Code} {dC : Nat → ClassId} {dI : Nat → Nat → Nat} {A : Nat → Prop} {cB cI cJ : ClassId} {H : Heap} {locs : List Loc} {ls : Array Slot} {N : Nat} {w wo a wi wh wd wm wp wb wc wl aL : Nat}
noncomputable def b_Mo_show_11 (aL : Nat) (x2 : Int32) (af : Nat → Int32)  (kh11 : Int32 → (Nat → Int32) → Option (Int32 × Int32 × (Nat → Int32))) (x3 : Int32) (wof : Nat → Int32) : Option (Int32 × Int32 × (Nat → Int32)) :=
  (if x2 ≤ x3 then (some (x2, x2, wof) : Option (Int32 × Int32 × (Nat → Int32))) else as_ (vp_in x3 aL) (as_ (vp_in x3 8000) ((kh11 (x3 + 1) (upd wof x3.toNatClampNeg (af x3.toNatClampNeg))))))
set_option maxHeartbeats 4000000 in
set_option maxRecDepth 100000 in
theorem k_Mo_show_11 {r_z : Int32} {won_z : Int32} {wof_z : Nat → Int32} (C : Fx p s m args meth c cd_Mo_show 4 R_Mo lw_g (some .int)) (hK : va_K (dC, dI) vwCl [(cB, .byte), (cI, .int), (cJ, .long)] s) (hA : ∀ q, s.heap.size ≤ q → A q) (x2 : Int32) (win : Int32) (won : Int32) (whn : Int32) (wpl : Int32) (wdn : Int32) (wfo : Int32) (wmn : Int32) (wpn : Int32) (wbn : Int32) (wcn : Int32) (wat : Int32) (wnu : Int32) (af : Nat → Int32)  : ∀ (n : Nat) (x3 : Int32) (wof : Nat → Int32), loop2 (b_Mo_show_11 aL x2 af ) n x3 wof = some (r_z, won_z, wof_z) → ∀ (H : Heap) (locs : List Loc), va_P (dC, dI) vwCl (wd_Mo_show w wo a wi wh wd wm wp wb wc wl cB cI cJ aL win won whn wpl wdn wfo wmn wpn wbn wcn wat wnu wof af) H → va_D A (wd_Mo_show w wo a wi wh wd wm wp wb wc wl cB cI cJ aL win won whn wpl wdn wfo wmn wpn wbn wcn wat wnu wof af) → va_S A s.heap H locs → ∀ (ls : Array Slot), lv_has ls 4 [(0, .ref w), (1, .ref a), (2, .int x2), (3, .int x3)] → W p l e rm_Mo_show s m args below meth c H locs 0 0 (MQ below (sQi (dC, dI) vwCl [(cB, .byte), (cI, .int), (cJ, .long)] A r_z (wd_Mo_show w wo a wi wh wd wm wp wb wc wl cB cI cJ aL win won_z whn wpl wdn wfo wmn wpn wbn wcn wat wnu wof_z af)) args s 0 0 A) (F0 m 11 ls []) := by
  obtain ⟨hx, hb, hml, hown, hts, hr, hlocks, hZ⟩ := id C
  intro n
  induction n with
  | zero => intro x3 wof hf; cases hf
  | succ n ih11 =>
    intro x3 wof hf H locs hP hD hS ls hl
    have hf : b_Mo_show_11 aL x2 af  (loop2 (b_Mo_show_11 aL x2 af ) n) x3 wof = some (r_z, won_z, wof_z) := hf
    generalize loop2 (b_Mo_show_11 aL x2 af ) n = kh11 at hf ih11
    unfold b_Mo_show_11 at hf
    refine lv_iload_n hx hb d_Mo_show_11 rfl (lv_at hl 3 rfl) ?_
    refine lv_iload_n hx hb d_Mo_show_12 rfl (lv_at hl 2 rfl) ?_
    refine lv_icmp_ge (tgt := 31) hx hb d_Mo_show_13 (by decide) (fun c_13 => ?_) (fun c_13 => ?_)
    · have hf := br_pos c_13 hf
      refine lv_aload_n hx hb d_Mo_show_31 rfl (lv_at hl 0 rfl) ?_
      refine lv_iload_n hx hb d_Mo_show_32 rfl (lv_at hl 2 rfl) ?_
      refine va_put (D := (dC, dI)) (ci := 7) (v := .int x2) (ty := .int) (C := R_Mo) (T := T_Mo) (N := 21) hx hb hts w_359 ty_Mo ty_Mo_ok nm_Mo hown hK hP hD hS 0 rfl rfl 4 (by decide) (hts _ w_377) (fun _ h9 => h9) rfl (by decide +kernel) rfl rfl (Nat.le_of_ble_eq_true rfl) d_Mo_show_33 (fun H locs hP hD hS => ?_)
      have hP : va_P (dC, dI) vwCl (wd_Mo_show w wo a wi wh wd wm wp wb wc wl cB cI cJ aL win x2 whn wpl wdn wfo wmn wpn wbn wcn wat wnu wof af) H := hP
      have hD : va_D A (wd_Mo_show w wo a wi wh wd wm wp wb wc wl cB cI cJ aL win x2 whn wpl wdn wfo wmn wpn wbn wcn wat wnu wof af) := hD
      refine lv_iload_n hx hb d_Mo_show_36 rfl (lv_at hl 2 rfl) ?_
      cases hf
      exact s_iret hx hb hr hlocks hP hK hD hS d_Mo_show_37
    · have hf := br_neg c_13 hf
      refine lv_aload_n hx hb d_Mo_show_16 rfl (lv_at hl 0 rfl) ?_
      refine va_get (D := (dC, dI)) (ci := 7) (v := .ref wo) (C := R_Mo) (T := T_Mo) (N := 21) hx hb hts w_359 hown hK hP 0 rfl rfl 1 (by decide) (hts _ w_378) (fun _ h9 => h9) rfl d_Mo_show_17 ?_
      refine lv_iload_n hx hb d_Mo_show_20 rfl (lv_at hl 3 rfl) ?_
      refine lv_aload_n hx hb d_Mo_show_21 rfl (lv_at hl 1 rfl) ?_
      refine lv_iload_n hx hb d_Mo_show_22 rfl (lv_at hl 3 rfl) ?_
      obtain ⟨h_in, hf⟩ := as_some hf
      refine va_iald hx hb hK hP 2 1 rfl rfl h_in d_Mo_show_23 ?_
      obtain ⟨h_in, hf⟩ := as_some hf
      refine va_iast hx hb hK hP hD hS 1 1 rfl rfl h_in d_Mo_show_24 (fun H locs hP hD hS => ?_)
      have hP : va_P (dC, dI) vwCl (wd_Mo_show w wo a wi wh wd wm wp wb wc wl cB cI cJ aL win won whn wpl wdn wfo wmn wpn wbn wcn wat wnu (upd wof x3.toNatClampNeg (af x3.toNatClampNeg)) af) H := hP
      have hD : va_D A (wd_Mo_show w wo a wi wh wd wm wp wb wc wl cB cI cJ aL win won whn wpl wdn wfo wmn wpn wbn wcn wat wnu (upd wof x3.toNatClampNeg (af x3.toNatClampNeg)) af) := hD
      refine lv_iinc (v := (x3 + 1)) (lv' := [(3, .int (x3 + 1)), (0, .ref w), (1, .ref a), (2, .int x2)]) hx hb d_Mo_show_25 hl (k := 3) rfl (congrArg (fun z => x3 + z) (by decide)) (by decide) rfl (fun ls hl => ?_)
      refine lv_goto (tgt := 11) hx hb d_Mo_show_28 (by decide) ?_
      exact ih11 (x3 + 1) (upd wof x3.toNatClampNeg (af x3.toNatClampNeg)) hf _ _ hP hD hS _ (lv_sub hl [1, 2, 3, 0] rfl)
noncomputable def j_Mo_show_0 (N : Nat) (aL : Nat) (x2 : Int32) (won : Int32) (wof : Nat → Int32) (af : Nat → Int32)  : Option (Int32 × Int32 × (Nat → Int32)) :=
  (if x2 ≤ (8000 : Int32) then (loop2 (b_Mo_show_11 aL x2 af ) N (0 : Int32) wof) else (some ((-1 : Int32), won, wof) : Option (Int32 × Int32 × (Nat → Int32))))
set_option maxHeartbeats 4000000 in
set_option maxRecDepth 100000 in
theorem k_Mo_show_0 {r_z : Int32} {won_z : Int32} {wof_z : Nat → Int32} (C : Fx p s m args meth c cd_Mo_show 4 R_Mo lw_g (some .int)) (hK : va_K (dC, dI) vwCl [(cB, .byte), (cI, .int), (cJ, .long)] s) (hA : ∀ q, s.heap.size ≤ q → A q) (x2 : Int32) (win : Int32) (won : Int32) (whn : Int32) (wpl : Int32) (wdn : Int32) (wfo : Int32) (wmn : Int32) (wpn : Int32) (wbn : Int32) (wcn : Int32) (wat : Int32) (wnu : Int32) (wof : Nat → Int32) (af : Nat → Int32)  (hf : j_Mo_show_0 N aL x2 won wof af  = some (r_z, won_z, wof_z)) (hP : va_P (dC, dI) vwCl (wd_Mo_show w wo a wi wh wd wm wp wb wc wl cB cI cJ aL win won whn wpl wdn wfo wmn wpn wbn wcn wat wnu wof af) H) (hD : va_D A (wd_Mo_show w wo a wi wh wd wm wp wb wc wl cB cI cJ aL win won whn wpl wdn wfo wmn wpn wbn wcn wat wnu wof af)) (hS : va_S A s.heap H locs) (hl : lv_has ls 4 [(0, .ref w), (1, .ref a), (2, .int x2)]) : W p l e rm_Mo_show s m args below meth c H locs 0 0 (MQ below (sQi (dC, dI) vwCl [(cB, .byte), (cI, .int), (cJ, .long)] A r_z (wd_Mo_show w wo a wi wh wd wm wp wb wc wl cB cI cJ aL win won_z whn wpl wdn wfo wmn wpn wbn wcn wat wnu wof_z af)) args s 0 0 A) (F0 m 0 ls []) := by
  obtain ⟨hx, hb, hml, hown, hts, hr, hlocks, hZ⟩ := id C
  unfold j_Mo_show_0 at hf
  refine lv_iload_n hx hb d_Mo_show_0 rfl (lv_at hl 2 rfl) ?_
  refine lv_sipush (v := 8000) hx hb d_Mo_show_1 (by decide) ?_
  refine lv_icmp_le (tgt := 9) hx hb d_Mo_show_4 (by decide) (fun c_4 => ?_) (fun c_4 => ?_)
  · have hf := br_pos c_4 hf
    refine lv_iconst (v := 0) hx hb d_Mo_show_9 (by decide) ?_
    refine lv_istore_n (lv' := [(3, .int (0 : Int32)), (0, .ref w), (1, .ref a), (2, .int x2)]) hx hb d_Mo_show_10 rfl hl (by decide) rfl (fun ls hl => ?_)
    exact k_Mo_show_11 C hK hA x2 win won whn wpl wdn wfo wmn wpn wbn wcn wat wnu af  N (0 : Int32) wof hf _ _ hP hD hS _ (lv_sub hl [1, 2, 3, 0] rfl)
  · have hf := br_neg c_4 hf
    refine lv_iconst (v := -1) hx hb d_Mo_show_7 (by decide) ?_
    cases hf
    exact s_iret hx hb hr hlocks hP hK hD hS d_Mo_show_8
end
noncomputable abbrev f_Mo_show (N : Nat) (aL : Nat) (x2 : Int32) (won : Int32) (wof : Nat → Int32) (af : Nat → Int32) : Option (Int32 × Int32 × (Nat → Int32)) := j_Mo_show_0 N aL x2 won wof af
set_option maxRecDepth 100000 in
theorem c_Mo_show {N : Nat} (l : Launch) (dC : Nat → ClassId) (dI : Nat → Nat → Nat) (cB cI cJ : ClassId) (w wo a wi wh wd wm wp wb wc wl aL : Nat) (win : Int32) (won : Int32) (whn : Int32) (wpl : Int32) (wdn : Int32) (wfo : Int32) (wmn : Int32) (wpn : Int32) (wbn : Int32) (wcn : Int32) (wat : Int32) (wnu : Int32) (wof : Nat → Int32) (af : Nat → Int32) (x2 : Int32) {r_z : Int32} {won_z : Int32} {wof_z : Nat → Int32} (hf : f_Mo_show N aL x2 won wof af = some (r_z, won_z, wof_z)) : MetI l y_Mo_show ws_Mo_show rm_Mo_show (dC, dI) vwCl [(cB, .byte), (cI, .int), (cJ, .long)] [.ref w, .ref a, .int x2] (wd_Mo_show w wo a wi wh wd wm wp wb wc wl cB cI cJ aL win won whn wpl wdn wfo wmn wpn wbn wcn wat wnu wof af) r_z (wd_Mo_show w wo a wi wh wd wm wp wb wc wl cB cI cJ aL win won_z whn wpl wdn wfo wmn wpn wbn wcn wat wnu wof_z af) 0 0 :=
  s_ofi (bytes := cd_Mo_show) (maxL := 4) (ret := (some .int)) (by decide) rfl (Nat.le_of_ble_eq_true rfl) (fun p e s m below meth c A ls C hK hA hP hD hS hl => k_Mo_show_0 C hK hA x2 win won whn wpl wdn wfo wmn wpn wbn wcn wat wnu wof af hf hP hD hS (lv_sub hl [0, 1, 2] rfl))

abbrev wd_Mo_sequence (w wd wp wi wo wh wm wb wc wl : Nat) (cB cI cJ : ClassId) (win : Int32) (won : Int32) (whn : Int32) (wpl : Int32) (wdn : Int32) (wfo : Int32) (wmn : Int32) (wpn : Int32) (wbn : Int32) (wcn : Int32) (wat : Int32) (wnu : Int32) (wdf : Nat → Int32) (wpf : Nat → Int32) : va_W := [(w, .inr (7, [.ref wi, .ref wo, .ref wh, .int win, .int won, .int whn, .int wpl, .ref wd, .int wdn, .int wfo, .ref wm, .int wmn, .ref wp, .int wpn, .ref wb, .int wbn, .ref wc, .int wcn, .ref wl, .int wat, .int wnu])), (wd, .inl (cI, 16000, .inl wdf)), (wp, .inl (cI, 9000, .inl wpf))]
abbrev rm_Mo_sequence : Room := { frames := 2, cells := 0, slots := 0, locals := 43 }
section
variable {p : Program} {l : Launch} {e : Env} {s : State} {m : MethodId} {args : Array Value} {below : List Frame} {meth : Method} {c : Code} {dC : Nat → ClassId} {dI : Nat → Nat → Nat} {A : Nat → Prop} {cB cI cJ : ClassId} {H : Heap} {locs : List Loc} {ls : Array Slot} {N : Nat} {w wd wp wi wo wh wm wb wc wl : Nat}
noncomputable def b_Mo_sequence_63 (N : Nat) (x2 : Int32) (x3 : Int32) (x4 : Int32) (x6 : Int32) (wdf : Nat → Int32)  (kh63 : Int32 → Int32 → (Nat → Int32) → Option (Int32 × (Nat → Int32))) (x7 : Int32) (wpn : Int32) (wpf : Nat → Int32) : Option (Int32 × (Nat → Int32)) :=
  (if x2 ≤ x7 then (if x3 = 0 then (some (wpn, wpf) : Option (Int32 × (Nat → Int32))) else bd2 (f_Mo_say (x4 - x4 / (256 : Int32) * (256 : Int32)) wpn wpf) (fun wpn_98 wpf_98 => bd2 (f_Mo_say (x4 / (256 : Int32)) wpn_98 wpf_98) (fun wpn_108 wpf_108 => bd2 (f_Mo_added N x6 wpn_108 wpf_108) (fun wpn_114 wpf_114 => (some (wpn_114, wpf_114) : Option (Int32 × (Nat → Int32))))))) else as_ (vp_in x7 16000) (bd2 (f_Mo_say (wdf x7.toNatClampNeg) wpn wpf) (fun wpn_77 wpf_77 => (kh63 (x7 + 1) wpn_77 wpf_77))))
set_option maxHeartbeats 4000000 in
set_option maxRecDepth 100000 in
theorem k_Mo_sequence_63 {wpn_z : Int32} {wpf_z : Nat → Int32} (C : Fx p s m args meth c cd_Mo_sequence 8 R_Mo lw_g none) (hK : va_K (dC, dI) vwCl [(cB, .byte), (cI, .int), (cJ, .long)] s) (hA : ∀ q, s.heap.size ≤ q → A q) (x2 : Int32) (x3 : Int32) (x4 : Int32) (x6 : Int32) (win : Int32) (won : Int32) (whn : Int32) (wpl : Int32) (wdn : Int32) (wfo : Int32) (wmn : Int32) (wbn : Int32) (wcn : Int32) (wat : Int32) (wnu : Int32) (wdf : Nat → Int32)  : ∀ (n : Nat) (x7 : Int32) (wpn : Int32) (wpf : Nat → Int32), loop3 (b_Mo_sequence_63 N x2 x3 x4 x6 wdf ) n x7 wpn wpf = some (wpn_z, wpf_z) → ∀ (H : Heap) (locs : List Loc), va_P (dC, dI) vwCl (wd_Mo_sequence w wd wp wi wo wh wm wb wc wl cB cI cJ win won whn wpl wdn wfo wmn wpn wbn wcn wat wnu wdf wpf) H → va_D A (wd_Mo_sequence w wd wp wi wo wh wm wb wc wl cB cI cJ win won whn wpl wdn wfo wmn wpn wbn wcn wat wnu wdf wpf) → va_S A s.heap H locs → ∀ (ls : Array Slot), lv_has ls 8 [(0, .ref w), (2, .int x2), (3, .int x3), (4, .int x4), (6, .int x6), (7, .int x7)] → W p l e rm_Mo_sequence s m args below meth c H locs 0 0 (MQ below (sQv (dC, dI) vwCl [(cB, .byte), (cI, .int), (cJ, .long)] A (wd_Mo_sequence w wd wp wi wo wh wm wb wc wl cB cI cJ win won whn wpl wdn wfo wmn wpn_z wbn wcn wat wnu wdf wpf_z)) args s 0 0 A) (F0 m 63 ls []) := by
  obtain ⟨hx, hb, hml, hown, hts, hr, hlocks, hZ⟩ := id C
  intro n
  induction n with
  | zero => intro x7 wpn wpf hf; cases hf
  | succ n ih63 =>
    intro x7 wpn wpf hf H locs hP hD hS ls hl
    have hf : b_Mo_sequence_63 N x2 x3 x4 x6 wdf  (loop3 (b_Mo_sequence_63 N x2 x3 x4 x6 wdf ) n) x7 wpn wpf = some (wpn_z, wpf_z) := hf
    generalize loop3 (b_Mo_sequence_63 N x2 x3 x4 x6 wdf ) n = kh63 at hf ih63
    unfold b_Mo_sequence_63 at hf
    refine lv_iload hx hb d_Mo_sequence_63 (lv_at hl 5 rfl) ?_
    refine lv_iload_n hx hb d_Mo_sequence_65 rfl (lv_at hl 1 rfl) ?_
    refine lv_icmp_ge (tgt := 86) hx hb d_Mo_sequence_66 (by decide) (fun c_66 => ?_) (fun c_66 => ?_)
    · have hf := br_pos c_66 hf
      refine lv_iload_n hx hb d_Mo_sequence_86 rfl (lv_at hl 2 rfl) ?_
      refine lv_if_ne (tgt := 91) hx hb d_Mo_sequence_87 (by decide) (fun c_87 => ?_) (fun c_87 => ?_)
      · have hf := br_neg c_87 hf
        refine lv_aload_n hx hb d_Mo_sequence_91 rfl (lv_at hl 0 rfl) ?_
        refine lv_iload hx hb d_Mo_sequence_92 (lv_at hl 3 rfl) ?_
        refine lv_sipush (v := 256) hx hb d_Mo_sequence_94 (by decide) ?_
        refine lv_irem hx hb d_Mo_sequence_97 (by decide) ?_
        obtain ⟨wpn_98, wpf_98, hc98, hf⟩ := bd2_some hf
        refine s_Vv (As := [.int (x4 - x4 / (256 : Int32) * (256 : Int32))]) (rest := []) (wr := [(wd, .inl (cI, 16000, .inl wdf))]) (ws' := wd_Mo_sequence w wd wp wi wo wh wm wb wc wl cB cI cJ win won whn wpl wdn wfo wmn wpn_98 wbn wcn wat wnu wdf wpf_98) C.call (c_Mo_say l dC dI cB cI cJ w wp wi wo wh wd wm wb wc wl  win won whn wpl wdn wfo wmn wpn wbn wcn wat wnu wpf (x4 - x4 / (256 : Int32) * (256 : Int32)) hc98) (cwV 1 hts (gd_V w_362 w_363 w_364 w_365 w_366) rfl rfl rfl ⟨rfl, hd_Mo_say⟩ ⟨Nat.le_of_ble_eq_true rfl, Nat.le_of_ble_eq_true rfl⟩) rfl hl.1 rfl (Nat.le_of_ble_eq_true rfl) d_Mo_sequence_98 ⟨Nat.le_of_ble_eq_true rfl, Nat.le_of_ble_eq_true rfl⟩ hZ hK hP hD hS hA 7 0 rfl rfl [0, 2] [1] [1, 0, 2] rfl rfl rfl rfl (by decide) rfl rfl (fun H locs hP hD hS => ?_)
        refine lv_aload_n hx hb d_Mo_sequence_101 rfl (lv_at hl 0 rfl) ?_
        refine lv_iload hx hb d_Mo_sequence_102 (lv_at hl 3 rfl) ?_
        refine lv_sipush (v := 256) hx hb d_Mo_sequence_104 (by decide) ?_
        refine lv_idiv hx hb d_Mo_sequence_107 (by decide) ?_
        obtain ⟨wpn_108, wpf_108, hc108, hf⟩ := bd2_some hf
        refine s_Vv (As := [.int (x4 / (256 : Int32))]) (rest := []) (wr := [(wd, .inl (cI, 16000, .inl wdf))]) (ws' := wd_Mo_sequence w wd wp wi wo wh wm wb wc wl cB cI cJ win won whn wpl wdn wfo wmn wpn_108 wbn wcn wat wnu wdf wpf_108) C.call (c_Mo_say l dC dI cB cI cJ w wp wi wo wh wd wm wb wc wl  win won whn wpl wdn wfo wmn wpn_98 wbn wcn wat wnu wpf_98 (x4 / (256 : Int32)) hc108) (cwV 1 hts (gd_V w_362 w_363 w_364 w_365 w_366) rfl rfl rfl ⟨rfl, hd_Mo_say⟩ ⟨Nat.le_of_ble_eq_true rfl, Nat.le_of_ble_eq_true rfl⟩) rfl hl.1 rfl (Nat.le_of_ble_eq_true rfl) d_Mo_sequence_108 ⟨Nat.le_of_ble_eq_true rfl, Nat.le_of_ble_eq_true rfl⟩ hZ hK hP hD hS hA 7 0 rfl rfl [0, 2] [1] [1, 0, 2] rfl rfl rfl rfl (by decide) rfl rfl (fun H locs hP hD hS => ?_)
        refine lv_aload_n hx hb d_Mo_sequence_111 rfl (lv_at hl 0 rfl) ?_
        refine lv_iload hx hb d_Mo_sequence_112 (lv_at hl 4 rfl) ?_
        obtain ⟨wpn_114, wpf_114, hc114, hf⟩ := bd2_some hf
        refine s_Vv (As := [.int x6]) (rest := []) (wr := [(wd, .inl (cI, 16000, .inl wdf))]) (ws' := wd_Mo_sequence w wd wp wi wo wh wm wb wc wl cB cI cJ win won whn wpl wdn wfo wmn wpn_114 wbn wcn wat wnu wdf wpf_114) C.call (c_Mo_added l dC dI cB cI cJ w wp wi wo wh wd wm wb wc wl  win won whn wpl wdn wfo wmn wpn_108 wbn wcn wat wnu wpf_108 x6 hc114) (cwV 1 hts (gd_V w_379 w_380 w_381 w_365 w_382) rfl rfl rfl ⟨rfl, hd_Mo_added⟩ ⟨Nat.le_of_ble_eq_true rfl, Nat.le_of_ble_eq_true rfl⟩) rfl hl.1 rfl (Nat.le_of_ble_eq_true rfl) d_Mo_sequence_114 ⟨Nat.le_of_ble_eq_true rfl, Nat.le_of_ble_eq_true rfl⟩ hZ hK hP hD hS hA 7 0 rfl rfl [0, 2] [1] [1, 0, 2] rfl rfl rfl rfl (by decide) rfl rfl (fun H locs hP hD hS => ?_)
        cases hf
        exact s_vret hx hb hr hlocks hP hK hD hS d_Mo_sequence_117
      · have hf := br_pos c_87 hf
        cases hf
        exact s_vret hx hb hr hlocks hP hK hD hS d_Mo_sequence_90
    · have hf := br_neg c_66 hf
      refine lv_aload_n hx hb d_Mo_sequence_69 rfl (lv_at hl 0 rfl) ?_
      refine lv_aload_n hx hb d_Mo_sequence_70 rfl (lv_at hl 0 rfl) ?_
      refine va_get (D := (dC, dI)) (ci := 7) (v := .ref wd) (C := R_Mo) (T := T_Mo) (N := 21) hx hb hts w_359 hown hK hP 0 rfl rfl 7 (by decide) (hts _ w_371) (fun _ h9 => h9) rfl d_Mo_sequence_71 ?_
      refine lv_iload hx hb d_Mo_sequence_74 (lv_at hl 5 rfl) ?_
      obtain ⟨h_in, hf⟩ := as_some hf
      refine va_iald hx hb hK hP 1 1 rfl rfl h_in d_Mo_sequence_76 ?_
      obtain ⟨wpn_77, wpf_77, hc77, hf⟩ := bd2_some hf
      refine s_Vv (As := [.int (wdf x7.toNatClampNeg)]) (rest := []) (wr := [(wd, .inl (cI, 16000, .inl wdf))]) (ws' := wd_Mo_sequence w wd wp wi wo wh wm wb wc wl cB cI cJ win won whn wpl wdn wfo wmn wpn_77 wbn wcn wat wnu wdf wpf_77) C.call (c_Mo_say l dC dI cB cI cJ w wp wi wo wh wd wm wb wc wl  win won whn wpl wdn wfo wmn wpn wbn wcn wat wnu wpf (wdf x7.toNatClampNeg) hc77) (cwV 1 hts (gd_V w_362 w_363 w_364 w_365 w_366) rfl rfl rfl ⟨rfl, hd_Mo_say⟩ ⟨Nat.le_of_ble_eq_true rfl, Nat.le_of_ble_eq_true rfl⟩) rfl hl.1 rfl (Nat.le_of_ble_eq_true rfl) d_Mo_sequence_77 ⟨Nat.le_of_ble_eq_true rfl, Nat.le_of_ble_eq_true rfl⟩ hZ hK hP hD hS hA 7 0 rfl rfl [0, 2] [1] [1, 0, 2] rfl rfl rfl rfl (by decide) rfl rfl (fun H locs hP hD hS => ?_)
      refine lv_iinc (v := (x7 + 1)) (lv' := [(7, .int (x7 + 1)), (0, .ref w), (2, .int x2), (3, .int x3), (4, .int x4), (6, .int x6)]) hx hb d_Mo_sequence_80 hl (k := 5) rfl (congrArg (fun z => x7 + z) (by decide)) (by decide) rfl (fun ls hl => ?_)
      refine lv_goto (tgt := 63) hx hb d_Mo_sequence_83 (by decide) ?_
      exact ih63 (x7 + 1) wpn_77 wpf_77 hf _ _ hP hD hS _ (lv_sub hl [1, 2, 3, 4, 5, 0] rfl)
noncomputable def j_Mo_sequence_50 (N : Nat) (x1 : Int32) (x2 : Int32) (x3 : Int32) (x4 : Int32) (x5 : Int32) (x6 : Int32) (t0 : Int32) (t1 : Int32) (wpn : Int32) (wdf : Nat → Int32) (wpf : Nat → Int32)  : Option (Int32 × (Nat → Int32)) :=
  bd2 (f_Mo_say (t1 + t0) wpn wpf) (fun wpn_51 wpf_51 => bd2 (f_Mo_added N x5 wpn_51 wpf_51) (fun wpn_57 wpf_57 => (loop3 (b_Mo_sequence_63 N x2 x3 x4 x6 wdf ) N x1 wpn_57 wpf_57)))
set_option maxHeartbeats 4000000 in
set_option maxRecDepth 100000 in
theorem k_Mo_sequence_50 {wpn_z : Int32} {wpf_z : Nat → Int32} (C : Fx p s m args meth c cd_Mo_sequence 8 R_Mo lw_g none) (hK : va_K (dC, dI) vwCl [(cB, .byte), (cI, .int), (cJ, .long)] s) (hA : ∀ q, s.heap.size ≤ q → A q) (x1 : Int32) (x2 : Int32) (x3 : Int32) (x4 : Int32) (x5 : Int32) (x6 : Int32) (t0 : Int32) (t1 : Int32) (win : Int32) (won : Int32) (whn : Int32) (wpl : Int32) (wdn : Int32) (wfo : Int32) (wmn : Int32) (wpn : Int32) (wbn : Int32) (wcn : Int32) (wat : Int32) (wnu : Int32) (wdf : Nat → Int32) (wpf : Nat → Int32)  (hf : j_Mo_sequence_50 N x1 x2 x3 x4 x5 x6 t0 t1 wpn wdf wpf  = some (wpn_z, wpf_z)) (hP : va_P (dC, dI) vwCl (wd_Mo_sequence w wd wp wi wo wh wm wb wc wl cB cI cJ win won whn wpl wdn wfo wmn wpn wbn wcn wat wnu wdf wpf) H) (hD : va_D A (wd_Mo_sequence w wd wp wi wo wh wm wb wc wl cB cI cJ win won whn wpl wdn wfo wmn wpn wbn wcn wat wnu wdf wpf)) (hS : va_S A s.heap H locs) (hl : lv_has ls 8 [(0, .ref w), (1, .int x1), (2, .int x2), (3, .int x3), (4, .int x4), (5, .int x5), (6, .int x6)]) : W p l e rm_Mo_sequence s m args below meth c H locs 0 0 (MQ below (sQv (dC, dI) vwCl [(cB, .byte), (cI, .int), (cJ, .long)] A (wd_Mo_sequence w wd wp wi wo wh wm wb wc wl cB cI cJ win won whn wpl wdn wfo wmn wpn_z wbn wcn wat wnu wdf wpf_z)) args s 0 0 A) (F0 m 50 ls [.int t0, .int t1, .ref w]) := by
  obtain ⟨hx, hb, hml, hown, hts, hr, hlocks, hZ⟩ := id C
  unfold j_Mo_sequence_50 at hf
  refine lv_iadd hx hb d_Mo_sequence_50 ?_
  obtain ⟨wpn_51, wpf_51, hc51, hf⟩ := bd2_some hf
  refine s_Vv (As := [.int (t1 + t0)]) (rest := []) (wr := [(wd, .inl (cI, 16000, .inl wdf))]) (ws' := wd_Mo_sequence w wd wp wi wo wh wm wb wc wl cB cI cJ win won whn wpl wdn wfo wmn wpn_51 wbn wcn wat wnu wdf wpf_51) C.call (c_Mo_say l dC dI cB cI cJ w wp wi wo wh wd wm wb wc wl  win won whn wpl wdn wfo wmn wpn wbn wcn wat wnu wpf (t1 + t0) hc51) (cwV 1 hts (gd_V w_362 w_363 w_364 w_365 w_366) rfl rfl rfl ⟨rfl, hd_Mo_say⟩ ⟨Nat.le_of_ble_eq_true rfl, Nat.le_of_ble_eq_true rfl⟩) rfl hl.1 rfl (Nat.le_of_ble_eq_true rfl) d_Mo_sequence_51 ⟨Nat.le_of_ble_eq_true rfl, Nat.le_of_ble_eq_true rfl⟩ hZ hK hP hD hS hA 7 0 rfl rfl [0, 2] [1] [1, 0, 2] rfl rfl rfl rfl (by decide) rfl rfl (fun H locs hP hD hS => ?_)
  refine lv_aload_n hx hb d_Mo_sequence_54 rfl (lv_at hl 0 rfl) ?_
  refine lv_iload hx hb d_Mo_sequence_55 (lv_at hl 5 rfl) ?_
  obtain ⟨wpn_57, wpf_57, hc57, hf⟩ := bd2_some hf
  refine s_Vv (As := [.int x5]) (rest := []) (wr := [(wd, .inl (cI, 16000, .inl wdf))]) (ws' := wd_Mo_sequence w wd wp wi wo wh wm wb wc wl cB cI cJ win won whn wpl wdn wfo wmn wpn_57 wbn wcn wat wnu wdf wpf_57) C.call (c_Mo_added l dC dI cB cI cJ w wp wi wo wh wd wm wb wc wl  win won whn wpl wdn wfo wmn wpn_51 wbn wcn wat wnu wpf_51 x5 hc57) (cwV 1 hts (gd_V w_379 w_380 w_381 w_365 w_382) rfl rfl rfl ⟨rfl, hd_Mo_added⟩ ⟨Nat.le_of_ble_eq_true rfl, Nat.le_of_ble_eq_true rfl⟩) rfl hl.1 rfl (Nat.le_of_ble_eq_true rfl) d_Mo_sequence_57 ⟨Nat.le_of_ble_eq_true rfl, Nat.le_of_ble_eq_true rfl⟩ hZ hK hP hD hS hA 7 0 rfl rfl [0, 2] [1] [1, 0, 2] rfl rfl rfl rfl (by decide) rfl rfl (fun H locs hP hD hS => ?_)
  refine lv_iload_n hx hb d_Mo_sequence_60 rfl (lv_at hl 1 rfl) ?_
  refine lv_istore (lv' := [(7, .int x1), (0, .ref w), (1, .int x1), (2, .int x2), (3, .int x3), (4, .int x4), (5, .int x5), (6, .int x6)]) hx hb d_Mo_sequence_61 hl (by decide) rfl (fun ls hl => ?_)
  exact k_Mo_sequence_63 C hK hA x2 x3 x4 x6 win won whn wpl wdn wfo wmn wbn wcn wat wnu wdf  N x1 wpn_57 wpf_57 hf _ _ hP hD hS _ (lv_sub hl [1, 3, 4, 5, 7, 0] rfl)
noncomputable def j_Mo_sequence_25 (N : Nat) (x1 : Int32) (x2 : Int32) (x3 : Int32) (x4 : Int32) (x5 : Int32) (x6 : Int32) (t0 : Int32) (wpn : Int32) (wdf : Nat → Int32) (wpf : Nat → Int32)  : Option (Int32 × (Nat → Int32)) :=
  (if x3 = 0 then (j_Mo_sequence_50 N x1 x2 x3 x4 x5 x6 (0 : Int32) (t0 * (16 : Int32)) wpn wdf wpf ) else (if x6 ≤ (15 : Int32) then (j_Mo_sequence_50 N x1 x2 x3 x4 x5 x6 x6 (t0 * (16 : Int32)) wpn wdf wpf ) else (j_Mo_sequence_50 N x1 x2 x3 x4 x5 x6 (15 : Int32) (t0 * (16 : Int32)) wpn wdf wpf )))
set_option maxHeartbeats 4000000 in
set_option maxRecDepth 100000 in
theorem k_Mo_sequence_25 {wpn_z : Int32} {wpf_z : Nat → Int32} (C : Fx p s m args meth c cd_Mo_sequence 8 R_Mo lw_g none) (hK : va_K (dC, dI) vwCl [(cB, .byte), (cI, .int), (cJ, .long)] s) (hA : ∀ q, s.heap.size ≤ q → A q) (x1 : Int32) (x2 : Int32) (x3 : Int32) (x4 : Int32) (x5 : Int32) (x6 : Int32) (t0 : Int32) (win : Int32) (won : Int32) (whn : Int32) (wpl : Int32) (wdn : Int32) (wfo : Int32) (wmn : Int32) (wpn : Int32) (wbn : Int32) (wcn : Int32) (wat : Int32) (wnu : Int32) (wdf : Nat → Int32) (wpf : Nat → Int32)  (hf : j_Mo_sequence_25 N x1 x2 x3 x4 x5 x6 t0 wpn wdf wpf  = some (wpn_z, wpf_z)) (hP : va_P (dC, dI) vwCl (wd_Mo_sequence w wd wp wi wo wh wm wb wc wl cB cI cJ win won whn wpl wdn wfo wmn wpn wbn wcn wat wnu wdf wpf) H) (hD : va_D A (wd_Mo_sequence w wd wp wi wo wh wm wb wc wl cB cI cJ win won whn wpl wdn wfo wmn wpn wbn wcn wat wnu wdf wpf)) (hS : va_S A s.heap H locs) (hl : lv_has ls 8 [(0, .ref w), (1, .int x1), (2, .int x2), (3, .int x3), (4, .int x4), (5, .int x5), (6, .int x6)]) : W p l e rm_Mo_sequence s m args below meth c H locs 0 0 (MQ below (sQv (dC, dI) vwCl [(cB, .byte), (cI, .int), (cJ, .long)] A (wd_Mo_sequence w wd wp wi wo wh wm wb wc wl cB cI cJ win won whn wpl wdn wfo wmn wpn_z wbn wcn wat wnu wdf wpf_z)) args s 0 0 A) (F0 m 25 ls [.int t0, .ref w]) := by
  obtain ⟨hx, hb, hml, hown, hts, hr, hlocks, hZ⟩ := id C
  unfold j_Mo_sequence_25 at hf
  refine lv_bipush (v := 16) hx hb d_Mo_sequence_25 (by decide) ?_
  refine lv_imul hx hb d_Mo_sequence_27 ?_
  refine lv_iload_n hx hb d_Mo_sequence_28 rfl (lv_at hl 3 rfl) ?_
  refine lv_if_ne (tgt := 36) hx hb d_Mo_sequence_29 (by decide) (fun c_29 => ?_) (fun c_29 => ?_)
  · have hf := br_neg c_29 hf
    refine lv_iload hx hb d_Mo_sequence_36 (lv_at hl 6 rfl) ?_
    refine lv_bipush (v := 15) hx hb d_Mo_sequence_38 (by decide) ?_
    refine lv_icmp_le (tgt := 48) hx hb d_Mo_sequence_40 (by decide) (fun c_40 => ?_) (fun c_40 => ?_)
    · have hf := br_pos c_40 hf
      refine lv_iload hx hb d_Mo_sequence_48 (lv_at hl 6 rfl) ?_
      exact k_Mo_sequence_50 C hK hA x1 x2 x3 x4 x5 x6 x6 (t0 * (16 : Int32)) win won whn wpl wdn wfo wmn wpn wbn wcn wat wnu wdf wpf  hf hP hD hS (lv_sub hl [0, 1, 2, 3, 4, 5, 6] rfl)
    · have hf := br_neg c_40 hf
      refine lv_bipush (v := 15) hx hb d_Mo_sequence_43 (by decide) ?_
      refine lv_goto (tgt := 50) hx hb d_Mo_sequence_45 (by decide) ?_
      exact k_Mo_sequence_50 C hK hA x1 x2 x3 x4 x5 x6 (15 : Int32) (t0 * (16 : Int32)) win won whn wpl wdn wfo wmn wpn wbn wcn wat wnu wdf wpf  hf hP hD hS (lv_sub hl [0, 1, 2, 3, 4, 5, 6] rfl)
  · have hf := br_pos c_29 hf
    refine lv_iconst (v := 0) hx hb d_Mo_sequence_32 (by decide) ?_
    refine lv_goto (tgt := 50) hx hb d_Mo_sequence_33 (by decide) ?_
    exact k_Mo_sequence_50 C hK hA x1 x2 x3 x4 x5 x6 (0 : Int32) (t0 * (16 : Int32)) win won whn wpl wdn wfo wmn wpn wbn wcn wat wnu wdf wpf  hf hP hD hS (lv_sub hl [0, 1, 2, 3, 4, 5, 6] rfl)
noncomputable def j_Mo_sequence_0 (N : Nat) (x1 : Int32) (x2 : Int32) (x3 : Int32) (x4 : Int32) (wpn : Int32) (wdf : Nat → Int32) (wpf : Nat → Int32)  : Option (Int32 × (Nat → Int32)) :=
  (if (x2 - x1) ≤ (15 : Int32) then (j_Mo_sequence_25 N x1 x2 x3 x4 (x2 - x1) (x3 - (4 : Int32)) (x2 - x1) wpn wdf wpf ) else (j_Mo_sequence_25 N x1 x2 x3 x4 (x2 - x1) (x3 - (4 : Int32)) (15 : Int32) wpn wdf wpf ))
set_option maxHeartbeats 4000000 in
set_option maxRecDepth 100000 in
theorem k_Mo_sequence_0 {wpn_z : Int32} {wpf_z : Nat → Int32} (C : Fx p s m args meth c cd_Mo_sequence 8 R_Mo lw_g none) (hK : va_K (dC, dI) vwCl [(cB, .byte), (cI, .int), (cJ, .long)] s) (hA : ∀ q, s.heap.size ≤ q → A q) (x1 : Int32) (x2 : Int32) (x3 : Int32) (x4 : Int32) (win : Int32) (won : Int32) (whn : Int32) (wpl : Int32) (wdn : Int32) (wfo : Int32) (wmn : Int32) (wpn : Int32) (wbn : Int32) (wcn : Int32) (wat : Int32) (wnu : Int32) (wdf : Nat → Int32) (wpf : Nat → Int32)  (hf : j_Mo_sequence_0 N x1 x2 x3 x4 wpn wdf wpf  = some (wpn_z, wpf_z)) (hP : va_P (dC, dI) vwCl (wd_Mo_sequence w wd wp wi wo wh wm wb wc wl cB cI cJ win won whn wpl wdn wfo wmn wpn wbn wcn wat wnu wdf wpf) H) (hD : va_D A (wd_Mo_sequence w wd wp wi wo wh wm wb wc wl cB cI cJ win won whn wpl wdn wfo wmn wpn wbn wcn wat wnu wdf wpf)) (hS : va_S A s.heap H locs) (hl : lv_has ls 8 [(0, .ref w), (1, .int x1), (2, .int x2), (3, .int x3), (4, .int x4)]) : W p l e rm_Mo_sequence s m args below meth c H locs 0 0 (MQ below (sQv (dC, dI) vwCl [(cB, .byte), (cI, .int), (cJ, .long)] A (wd_Mo_sequence w wd wp wi wo wh wm wb wc wl cB cI cJ win won whn wpl wdn wfo wmn wpn_z wbn wcn wat wnu wdf wpf_z)) args s 0 0 A) (F0 m 0 ls []) := by
  obtain ⟨hx, hb, hml, hown, hts, hr, hlocks, hZ⟩ := id C
  unfold j_Mo_sequence_0 at hf
  refine lv_iload_n hx hb d_Mo_sequence_0 rfl (lv_at hl 2 rfl) ?_
  refine lv_iload_n hx hb d_Mo_sequence_1 rfl (lv_at hl 1 rfl) ?_
  refine lv_isub hx hb d_Mo_sequence_2 ?_
  refine lv_istore (lv' := [(5, .int (x2 - x1)), (0, .ref w), (1, .int x1), (2, .int x2), (3, .int x3), (4, .int x4)]) hx hb d_Mo_sequence_3 hl (by decide) rfl (fun ls hl => ?_)
  refine lv_iload_n hx hb d_Mo_sequence_5 rfl (lv_at hl 4 rfl) ?_
  refine lv_iconst (v := 4) hx hb d_Mo_sequence_6 (by decide) ?_
  refine lv_isub hx hb d_Mo_sequence_7 ?_
  refine lv_istore (lv' := [(6, .int (x3 - (4 : Int32))), (5, .int (x2 - x1)), (0, .ref w), (1, .int x1), (2, .int x2), (3, .int x3), (4, .int x4)]) hx hb d_Mo_sequence_8 hl (by decide) rfl (fun ls hl => ?_)
  refine lv_aload_n hx hb d_Mo_sequence_10 rfl (lv_at hl 2 rfl) ?_
  refine lv_iload hx hb d_Mo_sequence_11 (lv_at hl 1 rfl) ?_
  refine lv_bipush (v := 15) hx hb d_Mo_sequence_13 (by decide) ?_
  refine lv_icmp_le (tgt := 23) hx hb d_Mo_sequence_15 (by decide) (fun c_15 => ?_) (fun c_15 => ?_)
  · have hf := br_pos c_15 hf
    refine lv_iload hx hb d_Mo_sequence_23 (lv_at hl 1 rfl) ?_
    exact k_Mo_sequence_25 C hK hA x1 x2 x3 x4 (x2 - x1) (x3 - (4 : Int32)) (x2 - x1) win won whn wpl wdn wfo wmn wpn wbn wcn wat wnu wdf wpf  hf hP hD hS (lv_sub hl [2, 3, 4, 5, 6, 1, 0] rfl)
  · have hf := br_neg c_15 hf
    refine lv_bipush (v := 15) hx hb d_Mo_sequence_18 (by decide) ?_
    refine lv_goto (tgt := 25) hx hb d_Mo_sequence_20 (by decide) ?_
    exact k_Mo_sequence_25 C hK hA x1 x2 x3 x4 (x2 - x1) (x3 - (4 : Int32)) (15 : Int32) win won whn wpl wdn wfo wmn wpn wbn wcn wat wnu wdf wpf  hf hP hD hS (lv_sub hl [2, 3, 4, 5, 6, 1, 0] rfl)
end
noncomputable abbrev f_Mo_sequence (N : Nat) (x1 : Int32) (x2 : Int32) (x3 : Int32) (x4 : Int32) (wpn : Int32) (wdf : Nat → Int32) (wpf : Nat → Int32) : Option (Int32 × (Nat → Int32)) := j_Mo_sequence_0 N x1 x2 x3 x4 wpn wdf wpf
set_option maxRecDepth 100000 in
theorem c_Mo_sequence {N : Nat} (l : Launch) (dC : Nat → ClassId) (dI : Nat → Nat → Nat) (cB cI cJ : ClassId) (w wd wp wi wo wh wm wb wc wl : Nat) (win : Int32) (won : Int32) (whn : Int32) (wpl : Int32) (wdn : Int32) (wfo : Int32) (wmn : Int32) (wpn : Int32) (wbn : Int32) (wcn : Int32) (wat : Int32) (wnu : Int32) (wdf : Nat → Int32) (wpf : Nat → Int32) (x1 : Int32) (x2 : Int32) (x3 : Int32) (x4 : Int32) {wpn_z : Int32} {wpf_z : Nat → Int32} (hf : f_Mo_sequence N x1 x2 x3 x4 wpn wdf wpf = some (wpn_z, wpf_z)) : MetV l y_Mo_sequence ws_Mo_sequence rm_Mo_sequence (dC, dI) vwCl [(cB, .byte), (cI, .int), (cJ, .long)] [.ref w, .int x1, .int x2, .int x3, .int x4] (wd_Mo_sequence w wd wp wi wo wh wm wb wc wl cB cI cJ win won whn wpl wdn wfo wmn wpn wbn wcn wat wnu wdf wpf)  (wd_Mo_sequence w wd wp wi wo wh wm wb wc wl cB cI cJ win won whn wpl wdn wfo wmn wpn_z wbn wcn wat wnu wdf wpf_z) 0 0 :=
  s_ofv (bytes := cd_Mo_sequence) (maxL := 8) (ret := none) (by decide) rfl (Nat.le_of_ble_eq_true rfl) (fun p e s m below meth c A ls C hK hA hP hD hS hl => k_Mo_sequence_0 C hK hA x1 x2 x3 x4 win won whn wpl wdn wfo wmn wpn wbn wcn wat wnu wdf wpf hf hP hD hS (lv_sub hl [0, 1, 2, 3, 4] rfl))

abbrev wd_Mo_match (w wd wi wo wh wm wp wb wc wl : Nat) (cB cI cJ : ClassId) (win : Int32) (won : Int32) (whn : Int32) (wpl : Int32) (wdn : Int32) (wfo : Int32) (wmn : Int32) (wpn : Int32) (wbn : Int32) (wcn : Int32) (wat : Int32) (wnu : Int32) (wdf : Nat → Int32) : va_W := [(w, .inr (7, [.ref wi, .ref wo, .ref wh, .int win, .int won, .int whn, .int wpl, .ref wd, .int wdn, .int wfo, .ref wm, .int wmn, .ref wp, .int wpn, .ref wb, .int wbn, .ref wc, .int wcn, .ref wl, .int wat, .int wnu])), (wd, .inl (cI, 16000, .inl wdf))]
abbrev rm_Mo_match : Room := { frames := 1, cells := 0, slots := 0, locals := 24 }
section
variable {p : Program} {l : Launch} {e : Env} {s : State} {m : MethodId} {args : Array Value} {below : List Frame} {meth : Method} {c : Code} {dC : Nat → ClassId} {dI : Nat → Nat → Nat} {A : Nat → Prop} {cB cI cJ : ClassId} {H : Heap} {locs : List Loc} {ls : Array Slot} {N : Nat} {w wd wi wo wh wm wp wb wc wl : Nat}
noncomputable def j_Mo_match_167 (x4 : Int32) (x5 : Int32) (wfo : Int32) (kh39 : Int32 → Int32 → Int32 → Option (Int32 × Int32)) : Option (Int32 × Int32) :=
  (kh39 x4 (x5 + (-1)) wfo)
set_option maxHeartbeats 4000000 in
set_option maxRecDepth 100000 in
theorem k_Mo_match_167 {r_z : Int32} {wfo_z : Int32} (C : Fx p s m args meth c cd_Mo_match 8 R_Mo lw_g (some .int)) (hK : va_K (dC, dI) vwCl [(cB, .byte), (cI, .int), (cJ, .long)] s) (hA : ∀ q, s.heap.size ≤ q → A q) (x1 : Int32) (x2 : Int32) (x3 : Int32) (x4 : Int32) (x5 : Int32) (win : Int32) (won : Int32) (whn : Int32) (wpl : Int32) (wdn : Int32) (wfo : Int32) (wmn : Int32) (wpn : Int32) (wbn : Int32) (wcn : Int32) (wat : Int32) (wnu : Int32) (wdf : Nat → Int32) (kh39 : Int32 → Int32 → Int32 → Option (Int32 × Int32)) (ih39 : ∀ (x4 : Int32) (x5 : Int32) (wfo : Int32), kh39 x4 x5 wfo = some (r_z, wfo_z) → ∀ (H : Heap) (locs : List Loc), va_P (dC, dI) vwCl (wd_Mo_match w wd wi wo wh wm wp wb wc wl cB cI cJ win won whn wpl wdn wfo wmn wpn wbn wcn wat wnu wdf) H → va_D A (wd_Mo_match w wd wi wo wh wm wp wb wc wl cB cI cJ win won whn wpl wdn wfo wmn wpn wbn wcn wat wnu wdf) → va_S A s.heap H locs → ∀ (ls : Array Slot), lv_has ls 8 [(0, .ref w), (1, .int x1), (2, .int x2), (3, .int x3), (4, .int x4), (5, .int x5)] → W p l e rm_Mo_match s m args below meth c H locs 0 0 (MQ below (sQi (dC, dI) vwCl [(cB, .byte), (cI, .int), (cJ, .long)] A r_z (wd_Mo_match w wd wi wo wh wm wp wb wc wl cB cI cJ win won whn wpl wdn wfo_z wmn wpn wbn wcn wat wnu wdf)) args s 0 0 A) (F0 m 39 ls [])) (hf : j_Mo_match_167 x4 x5 wfo kh39 = some (r_z, wfo_z)) (hP : va_P (dC, dI) vwCl (wd_Mo_match w wd wi wo wh wm wp wb wc wl cB cI cJ win won whn wpl wdn wfo wmn wpn wbn wcn wat wnu wdf) H) (hD : va_D A (wd_Mo_match w wd wi wo wh wm wp wb wc wl cB cI cJ win won whn wpl wdn wfo wmn wpn wbn wcn wat wnu wdf)) (hS : va_S A s.heap H locs) (hl : lv_has ls 8 [(0, .ref w), (1, .int x1), (2, .int x2), (3, .int x3), (4, .int x4), (5, .int x5)]) : W p l e rm_Mo_match s m args below meth c H locs 0 0 (MQ below (sQi (dC, dI) vwCl [(cB, .byte), (cI, .int), (cJ, .long)] A r_z (wd_Mo_match w wd wi wo wh wm wp wb wc wl cB cI cJ win won whn wpl wdn wfo_z wmn wpn wbn wcn wat wnu wdf)) args s 0 0 A) (F0 m 167 ls []) := by
  obtain ⟨hx, hb, hml, hown, hts, hr, hlocks, hZ⟩ := id C
  unfold j_Mo_match_167 at hf
  refine lv_iinc (v := (x5 + (-1))) (lv' := [(5, .int (x5 + (-1))), (0, .ref w), (1, .int x1), (2, .int x2), (3, .int x3), (4, .int x4)]) hx hb d_Mo_match_167 hl (k := 5) rfl (congrArg (fun z => x5 + z) (by decide)) (by decide) rfl (fun ls hl => ?_)
  refine lv_goto (tgt := 39) hx hb d_Mo_match_170 (by decide) ?_
  exact ih39 x4 (x5 + (-1)) wfo hf _ _ hP hD hS _ (lv_sub hl [1, 2, 3, 4, 5, 0] rfl)
noncomputable def j_Mo_match_147 (x4 : Int32) (x5 : Int32) (x6 : Int32) (t0 : Int32) (wfo : Int32) (kh39 : Int32 → Int32 → Int32 → Option (Int32 × Int32)) : Option (Int32 × Int32) :=
  (if t0 = 0 then (j_Mo_match_167 x4 x5 wfo kh39) else (j_Mo_match_167 x6 x5 x5 kh39))
set_option maxHeartbeats 4000000 in
set_option maxRecDepth 100000 in
theorem k_Mo_match_147 {r_z : Int32} {wfo_z : Int32} (C : Fx p s m args meth c cd_Mo_match 8 R_Mo lw_g (some .int)) (hK : va_K (dC, dI) vwCl [(cB, .byte), (cI, .int), (cJ, .long)] s) (hA : ∀ q, s.heap.size ≤ q → A q) (x1 : Int32) (x2 : Int32) (x3 : Int32) (x4 : Int32) (x5 : Int32) (x6 : Int32) (t0 : Int32) (win : Int32) (won : Int32) (whn : Int32) (wpl : Int32) (wdn : Int32) (wfo : Int32) (wmn : Int32) (wpn : Int32) (wbn : Int32) (wcn : Int32) (wat : Int32) (wnu : Int32) (wdf : Nat → Int32) (kh39 : Int32 → Int32 → Int32 → Option (Int32 × Int32)) (ih39 : ∀ (x4 : Int32) (x5 : Int32) (wfo : Int32), kh39 x4 x5 wfo = some (r_z, wfo_z) → ∀ (H : Heap) (locs : List Loc), va_P (dC, dI) vwCl (wd_Mo_match w wd wi wo wh wm wp wb wc wl cB cI cJ win won whn wpl wdn wfo wmn wpn wbn wcn wat wnu wdf) H → va_D A (wd_Mo_match w wd wi wo wh wm wp wb wc wl cB cI cJ win won whn wpl wdn wfo wmn wpn wbn wcn wat wnu wdf) → va_S A s.heap H locs → ∀ (ls : Array Slot), lv_has ls 8 [(0, .ref w), (1, .int x1), (2, .int x2), (3, .int x3), (4, .int x4), (5, .int x5)] → W p l e rm_Mo_match s m args below meth c H locs 0 0 (MQ below (sQi (dC, dI) vwCl [(cB, .byte), (cI, .int), (cJ, .long)] A r_z (wd_Mo_match w wd wi wo wh wm wp wb wc wl cB cI cJ win won whn wpl wdn wfo_z wmn wpn wbn wcn wat wnu wdf)) args s 0 0 A) (F0 m 39 ls [])) (hf : j_Mo_match_147 x4 x5 x6 t0 wfo kh39 = some (r_z, wfo_z)) (hP : va_P (dC, dI) vwCl (wd_Mo_match w wd wi wo wh wm wp wb wc wl cB cI cJ win won whn wpl wdn wfo wmn wpn wbn wcn wat wnu wdf) H) (hD : va_D A (wd_Mo_match w wd wi wo wh wm wp wb wc wl cB cI cJ win won whn wpl wdn wfo wmn wpn wbn wcn wat wnu wdf)) (hS : va_S A s.heap H locs) (hl : lv_has ls 8 [(0, .ref w), (1, .int x1), (2, .int x2), (3, .int x3), (4, .int x4), (5, .int x5), (6, .int x6)]) : W p l e rm_Mo_match s m args below meth c H locs 0 0 (MQ below (sQi (dC, dI) vwCl [(cB, .byte), (cI, .int), (cJ, .long)] A r_z (wd_Mo_match w wd wi wo wh wm wp wb wc wl cB cI cJ win won whn wpl wdn wfo_z wmn wpn wbn wcn wat wnu wdf)) args s 0 0 A) (F0 m 147 ls [.int t0]) := by
  obtain ⟨hx, hb, hml, hown, hts, hr, hlocks, hZ⟩ := id C
  unfold j_Mo_match_147 at hf
  refine lv_istore (lv' := [(7, .int t0), (0, .ref w), (1, .int x1), (2, .int x2), (3, .int x3), (4, .int x4), (5, .int x5), (6, .int x6)]) hx hb d_Mo_match_147 hl (by decide) rfl (fun ls hl => ?_)
  refine lv_iload hx hb d_Mo_match_149 (lv_at hl 0 rfl) ?_
  refine lv_if_ne (tgt := 157) hx hb d_Mo_match_151 (by decide) (fun c_151 => ?_) (fun c_151 => ?_)
  · have hf := br_neg c_151 hf
    refine lv_iload hx hb d_Mo_match_157 (lv_at hl 7 rfl) ?_
    refine lv_istore (lv' := [(4, .int x6), (7, .int t0), (0, .ref w), (1, .int x1), (2, .int x2), (3, .int x3), (5, .int x5), (6, .int x6)]) hx hb d_Mo_match_159 hl (by decide) rfl (fun ls hl => ?_)
    refine lv_aload_n hx hb d_Mo_match_161 rfl (lv_at hl 2 rfl) ?_
    refine lv_iload hx hb d_Mo_match_162 (lv_at hl 6 rfl) ?_
    refine va_put (D := (dC, dI)) (ci := 7) (v := .int x5) (ty := .int) (C := R_Mo) (T := T_Mo) (N := 21) hx hb hts w_359 ty_Mo ty_Mo_ok nm_Mo hown hK hP hD hS 0 rfl rfl 9 (by decide) (hts _ w_388) (fun _ h9 => h9) rfl (by decide +kernel) rfl rfl (Nat.le_of_ble_eq_true rfl) d_Mo_match_164 (fun H locs hP hD hS => ?_)
    have hP : va_P (dC, dI) vwCl (wd_Mo_match w wd wi wo wh wm wp wb wc wl cB cI cJ win won whn wpl wdn x5 wmn wpn wbn wcn wat wnu wdf) H := hP
    have hD : va_D A (wd_Mo_match w wd wi wo wh wm wp wb wc wl cB cI cJ win won whn wpl wdn x5 wmn wpn wbn wcn wat wnu wdf) := hD
    exact k_Mo_match_167 C hK hA x1 x2 x3 x6 x5 win won whn wpl wdn x5 wmn wpn wbn wcn wat wnu wdf kh39 ih39 hf hP hD hS (lv_sub hl [2, 3, 4, 5, 0, 6] rfl)
  · have hf := br_pos c_151 hf
    refine lv_goto (tgt := 167) hx hb d_Mo_match_154 (by decide) ?_
    exact k_Mo_match_167 C hK hA x1 x2 x3 x4 x5 win won whn wpl wdn wfo wmn wpn wbn wcn wat wnu wdf kh39 ih39 hf hP hD hS (lv_sub hl [1, 2, 3, 4, 5, 6] rfl)
noncomputable def j_Mo_match_146 (x4 : Int32) (x5 : Int32) (x6 : Int32) (wfo : Int32) (kh39 : Int32 → Int32 → Int32 → Option (Int32 × Int32)) : Option (Int32 × Int32) :=
  (j_Mo_match_147 x4 x5 x6 (0 : Int32) wfo kh39)
set_option maxHeartbeats 4000000 in
set_option maxRecDepth 100000 in
theorem k_Mo_match_146 {r_z : Int32} {wfo_z : Int32} (C : Fx p s m args meth c cd_Mo_match 8 R_Mo lw_g (some .int)) (hK : va_K (dC, dI) vwCl [(cB, .byte), (cI, .int), (cJ, .long)] s) (hA : ∀ q, s.heap.size ≤ q → A q) (x1 : Int32) (x2 : Int32) (x3 : Int32) (x4 : Int32) (x5 : Int32) (x6 : Int32) (win : Int32) (won : Int32) (whn : Int32) (wpl : Int32) (wdn : Int32) (wfo : Int32) (wmn : Int32) (wpn : Int32) (wbn : Int32) (wcn : Int32) (wat : Int32) (wnu : Int32) (wdf : Nat → Int32) (kh39 : Int32 → Int32 → Int32 → Option (Int32 × Int32)) (ih39 : ∀ (x4 : Int32) (x5 : Int32) (wfo : Int32), kh39 x4 x5 wfo = some (r_z, wfo_z) → ∀ (H : Heap) (locs : List Loc), va_P (dC, dI) vwCl (wd_Mo_match w wd wi wo wh wm wp wb wc wl cB cI cJ win won whn wpl wdn wfo wmn wpn wbn wcn wat wnu wdf) H → va_D A (wd_Mo_match w wd wi wo wh wm wp wb wc wl cB cI cJ win won whn wpl wdn wfo wmn wpn wbn wcn wat wnu wdf) → va_S A s.heap H locs → ∀ (ls : Array Slot), lv_has ls 8 [(0, .ref w), (1, .int x1), (2, .int x2), (3, .int x3), (4, .int x4), (5, .int x5)] → W p l e rm_Mo_match s m args below meth c H locs 0 0 (MQ below (sQi (dC, dI) vwCl [(cB, .byte), (cI, .int), (cJ, .long)] A r_z (wd_Mo_match w wd wi wo wh wm wp wb wc wl cB cI cJ win won whn wpl wdn wfo_z wmn wpn wbn wcn wat wnu wdf)) args s 0 0 A) (F0 m 39 ls [])) (hf : j_Mo_match_146 x4 x5 x6 wfo kh39 = some (r_z, wfo_z)) (hP : va_P (dC, dI) vwCl (wd_Mo_match w wd wi wo wh wm wp wb wc wl cB cI cJ win won whn wpl wdn wfo wmn wpn wbn wcn wat wnu wdf) H) (hD : va_D A (wd_Mo_match w wd wi wo wh wm wp wb wc wl cB cI cJ win won whn wpl wdn wfo wmn wpn wbn wcn wat wnu wdf)) (hS : va_S A s.heap H locs) (hl : lv_has ls 8 [(0, .ref w), (1, .int x1), (2, .int x2), (3, .int x3), (4, .int x4), (5, .int x5), (6, .int x6)]) : W p l e rm_Mo_match s m args below meth c H locs 0 0 (MQ below (sQi (dC, dI) vwCl [(cB, .byte), (cI, .int), (cJ, .long)] A r_z (wd_Mo_match w wd wi wo wh wm wp wb wc wl cB cI cJ win won whn wpl wdn wfo_z wmn wpn wbn wcn wat wnu wdf)) args s 0 0 A) (F0 m 146 ls []) := by
  obtain ⟨hx, hb, hml, hown, hts, hr, hlocks, hZ⟩ := id C
  unfold j_Mo_match_146 at hf
  refine lv_iconst (v := 0) hx hb d_Mo_match_146 (by decide) ?_
  exact k_Mo_match_147 C hK hA x1 x2 x3 x4 x5 x6 (0 : Int32) win won whn wpl wdn wfo wmn wpn wbn wcn wat wnu wdf kh39 ih39 hf hP hD hS (lv_sub hl [0, 1, 2, 3, 4, 5, 6] rfl)
noncomputable def j_Mo_match_125 (x4 : Int32) (x5 : Int32) (x6 : Int32) (wfo : Int32) (kh39 : Int32 → Int32 → Int32 → Option (Int32 × Int32)) : Option (Int32 × Int32) :=
  (j_Mo_match_147 x4 x5 x6 (0 : Int32) wfo kh39)
set_option maxHeartbeats 4000000 in
set_option maxRecDepth 100000 in
theorem k_Mo_match_125 {r_z : Int32} {wfo_z : Int32} (C : Fx p s m args meth c cd_Mo_match 8 R_Mo lw_g (some .int)) (hK : va_K (dC, dI) vwCl [(cB, .byte), (cI, .int), (cJ, .long)] s) (hA : ∀ q, s.heap.size ≤ q → A q) (x1 : Int32) (x2 : Int32) (x3 : Int32) (x4 : Int32) (x5 : Int32) (x6 : Int32) (win : Int32) (won : Int32) (whn : Int32) (wpl : Int32) (wdn : Int32) (wfo : Int32) (wmn : Int32) (wpn : Int32) (wbn : Int32) (wcn : Int32) (wat : Int32) (wnu : Int32) (wdf : Nat → Int32) (kh39 : Int32 → Int32 → Int32 → Option (Int32 × Int32)) (ih39 : ∀ (x4 : Int32) (x5 : Int32) (wfo : Int32), kh39 x4 x5 wfo = some (r_z, wfo_z) → ∀ (H : Heap) (locs : List Loc), va_P (dC, dI) vwCl (wd_Mo_match w wd wi wo wh wm wp wb wc wl cB cI cJ win won whn wpl wdn wfo wmn wpn wbn wcn wat wnu wdf) H → va_D A (wd_Mo_match w wd wi wo wh wm wp wb wc wl cB cI cJ win won whn wpl wdn wfo wmn wpn wbn wcn wat wnu wdf) → va_S A s.heap H locs → ∀ (ls : Array Slot), lv_has ls 8 [(0, .ref w), (1, .int x1), (2, .int x2), (3, .int x3), (4, .int x4), (5, .int x5)] → W p l e rm_Mo_match s m args below meth c H locs 0 0 (MQ below (sQi (dC, dI) vwCl [(cB, .byte), (cI, .int), (cJ, .long)] A r_z (wd_Mo_match w wd wi wo wh wm wp wb wc wl cB cI cJ win won whn wpl wdn wfo_z wmn wpn wbn wcn wat wnu wdf)) args s 0 0 A) (F0 m 39 ls [])) (hf : j_Mo_match_125 x4 x5 x6 wfo kh39 = some (r_z, wfo_z)) (hP : va_P (dC, dI) vwCl (wd_Mo_match w wd wi wo wh wm wp wb wc wl cB cI cJ win won whn wpl wdn wfo wmn wpn wbn wcn wat wnu wdf) H) (hD : va_D A (wd_Mo_match w wd wi wo wh wm wp wb wc wl cB cI cJ win won whn wpl wdn wfo wmn wpn wbn wcn wat wnu wdf)) (hS : va_S A s.heap H locs) (hl : lv_has ls 8 [(0, .ref w), (1, .int x1), (2, .int x2), (3, .int x3), (4, .int x4), (5, .int x5), (6, .int x6)]) : W p l e rm_Mo_match s m args below meth c H locs 0 0 (MQ below (sQi (dC, dI) vwCl [(cB, .byte), (cI, .int), (cJ, .long)] A r_z (wd_Mo_match w wd wi wo wh wm wp wb wc wl cB cI cJ win won whn wpl wdn wfo_z wmn wpn wbn wcn wat wnu wdf)) args s 0 0 A) (F0 m 125 ls []) := by
  obtain ⟨hx, hb, hml, hown, hts, hr, hlocks, hZ⟩ := id C
  unfold j_Mo_match_125 at hf
  refine lv_iconst (v := 0) hx hb d_Mo_match_125 (by decide) ?_
  refine lv_goto (tgt := 147) hx hb d_Mo_match_126 (by decide) ?_
  exact k_Mo_match_147 C hK hA x1 x2 x3 x4 x5 x6 (0 : Int32) win won whn wpl wdn wfo wmn wpn wbn wcn wat wnu wdf kh39 ih39 hf hP hD hS (lv_sub hl [0, 1, 2, 3, 4, 5, 6] rfl)
noncomputable def j_Mo_match_121 (x4 : Int32) (x5 : Int32) (x6 : Int32) (wfo : Int32) (kh39 : Int32 → Int32 → Int32 → Option (Int32 × Int32)) : Option (Int32 × Int32) :=
  (j_Mo_match_147 x4 x5 x6 (1 : Int32) wfo kh39)
set_option maxHeartbeats 4000000 in
set_option maxRecDepth 100000 in
theorem k_Mo_match_121 {r_z : Int32} {wfo_z : Int32} (C : Fx p s m args meth c cd_Mo_match 8 R_Mo lw_g (some .int)) (hK : va_K (dC, dI) vwCl [(cB, .byte), (cI, .int), (cJ, .long)] s) (hA : ∀ q, s.heap.size ≤ q → A q) (x1 : Int32) (x2 : Int32) (x3 : Int32) (x4 : Int32) (x5 : Int32) (x6 : Int32) (win : Int32) (won : Int32) (whn : Int32) (wpl : Int32) (wdn : Int32) (wfo : Int32) (wmn : Int32) (wpn : Int32) (wbn : Int32) (wcn : Int32) (wat : Int32) (wnu : Int32) (wdf : Nat → Int32) (kh39 : Int32 → Int32 → Int32 → Option (Int32 × Int32)) (ih39 : ∀ (x4 : Int32) (x5 : Int32) (wfo : Int32), kh39 x4 x5 wfo = some (r_z, wfo_z) → ∀ (H : Heap) (locs : List Loc), va_P (dC, dI) vwCl (wd_Mo_match w wd wi wo wh wm wp wb wc wl cB cI cJ win won whn wpl wdn wfo wmn wpn wbn wcn wat wnu wdf) H → va_D A (wd_Mo_match w wd wi wo wh wm wp wb wc wl cB cI cJ win won whn wpl wdn wfo wmn wpn wbn wcn wat wnu wdf) → va_S A s.heap H locs → ∀ (ls : Array Slot), lv_has ls 8 [(0, .ref w), (1, .int x1), (2, .int x2), (3, .int x3), (4, .int x4), (5, .int x5)] → W p l e rm_Mo_match s m args below meth c H locs 0 0 (MQ below (sQi (dC, dI) vwCl [(cB, .byte), (cI, .int), (cJ, .long)] A r_z (wd_Mo_match w wd wi wo wh wm wp wb wc wl cB cI cJ win won whn wpl wdn wfo_z wmn wpn wbn wcn wat wnu wdf)) args s 0 0 A) (F0 m 39 ls [])) (hf : j_Mo_match_121 x4 x5 x6 wfo kh39 = some (r_z, wfo_z)) (hP : va_P (dC, dI) vwCl (wd_Mo_match w wd wi wo wh wm wp wb wc wl cB cI cJ win won whn wpl wdn wfo wmn wpn wbn wcn wat wnu wdf) H) (hD : va_D A (wd_Mo_match w wd wi wo wh wm wp wb wc wl cB cI cJ win won whn wpl wdn wfo wmn wpn wbn wcn wat wnu wdf)) (hS : va_S A s.heap H locs) (hl : lv_has ls 8 [(0, .ref w), (1, .int x1), (2, .int x2), (3, .int x3), (4, .int x4), (5, .int x5), (6, .int x6)]) : W p l e rm_Mo_match s m args below meth c H locs 0 0 (MQ below (sQi (dC, dI) vwCl [(cB, .byte), (cI, .int), (cJ, .long)] A r_z (wd_Mo_match w wd wi wo wh wm wp wb wc wl cB cI cJ win won whn wpl wdn wfo_z wmn wpn wbn wcn wat wnu wdf)) args s 0 0 A) (F0 m 121 ls []) := by
  obtain ⟨hx, hb, hml, hown, hts, hr, hlocks, hZ⟩ := id C
  unfold j_Mo_match_121 at hf
  refine lv_iconst (v := 1) hx hb d_Mo_match_121 (by decide) ?_
  refine lv_goto (tgt := 147) hx hb d_Mo_match_122 (by decide) ?_
  exact k_Mo_match_147 C hK hA x1 x2 x3 x4 x5 x6 (1 : Int32) win won whn wpl wdn wfo wmn wpn wbn wcn wat wnu wdf kh39 ih39 hf hP hD hS (lv_sub hl [0, 1, 2, 3, 4, 5, 6] rfl)
noncomputable def j_Mo_match_102 (x4 : Int32) (x5 : Int32) (x6 : Int32) (wfo : Int32) (kh39 : Int32 → Int32 → Int32 → Option (Int32 × Int32)) : Option (Int32 × Int32) :=
  (if x4 ≤ 0 then (j_Mo_match_125 x4 x5 x6 wfo kh39) else (if (8 : Int32) ≤ x4 then (j_Mo_match_125 x4 x5 x6 wfo kh39) else (if x6 < (8 : Int32) then (j_Mo_match_125 x4 x5 x6 wfo kh39) else (j_Mo_match_121 x4 x5 x6 wfo kh39))))
set_option maxHeartbeats 4000000 in
set_option maxRecDepth 100000 in
theorem k_Mo_match_102 {r_z : Int32} {wfo_z : Int32} (C : Fx p s m args meth c cd_Mo_match 8 R_Mo lw_g (some .int)) (hK : va_K (dC, dI) vwCl [(cB, .byte), (cI, .int), (cJ, .long)] s) (hA : ∀ q, s.heap.size ≤ q → A q) (x1 : Int32) (x2 : Int32) (x3 : Int32) (x4 : Int32) (x5 : Int32) (x6 : Int32) (win : Int32) (won : Int32) (whn : Int32) (wpl : Int32) (wdn : Int32) (wfo : Int32) (wmn : Int32) (wpn : Int32) (wbn : Int32) (wcn : Int32) (wat : Int32) (wnu : Int32) (wdf : Nat → Int32) (kh39 : Int32 → Int32 → Int32 → Option (Int32 × Int32)) (ih39 : ∀ (x4 : Int32) (x5 : Int32) (wfo : Int32), kh39 x4 x5 wfo = some (r_z, wfo_z) → ∀ (H : Heap) (locs : List Loc), va_P (dC, dI) vwCl (wd_Mo_match w wd wi wo wh wm wp wb wc wl cB cI cJ win won whn wpl wdn wfo wmn wpn wbn wcn wat wnu wdf) H → va_D A (wd_Mo_match w wd wi wo wh wm wp wb wc wl cB cI cJ win won whn wpl wdn wfo wmn wpn wbn wcn wat wnu wdf) → va_S A s.heap H locs → ∀ (ls : Array Slot), lv_has ls 8 [(0, .ref w), (1, .int x1), (2, .int x2), (3, .int x3), (4, .int x4), (5, .int x5)] → W p l e rm_Mo_match s m args below meth c H locs 0 0 (MQ below (sQi (dC, dI) vwCl [(cB, .byte), (cI, .int), (cJ, .long)] A r_z (wd_Mo_match w wd wi wo wh wm wp wb wc wl cB cI cJ win won whn wpl wdn wfo_z wmn wpn wbn wcn wat wnu wdf)) args s 0 0 A) (F0 m 39 ls [])) (hf : j_Mo_match_102 x4 x5 x6 wfo kh39 = some (r_z, wfo_z)) (hP : va_P (dC, dI) vwCl (wd_Mo_match w wd wi wo wh wm wp wb wc wl cB cI cJ win won whn wpl wdn wfo wmn wpn wbn wcn wat wnu wdf) H) (hD : va_D A (wd_Mo_match w wd wi wo wh wm wp wb wc wl cB cI cJ win won whn wpl wdn wfo wmn wpn wbn wcn wat wnu wdf)) (hS : va_S A s.heap H locs) (hl : lv_has ls 8 [(0, .ref w), (1, .int x1), (2, .int x2), (3, .int x3), (4, .int x4), (5, .int x5), (6, .int x6)]) : W p l e rm_Mo_match s m args below meth c H locs 0 0 (MQ below (sQi (dC, dI) vwCl [(cB, .byte), (cI, .int), (cJ, .long)] A r_z (wd_Mo_match w wd wi wo wh wm wp wb wc wl cB cI cJ win won whn wpl wdn wfo_z wmn wpn wbn wcn wat wnu wdf)) args s 0 0 A) (F0 m 102 ls []) := by
  obtain ⟨hx, hb, hml, hown, hts, hr, hlocks, hZ⟩ := id C
  unfold j_Mo_match_102 at hf
  refine lv_iload hx hb d_Mo_match_102 (lv_at hl 4 rfl) ?_
  refine lv_if_le (tgt := 125) hx hb d_Mo_match_104 (by decide) (fun c_104 => ?_) (fun c_104 => ?_)
  · have hf := br_pos c_104 hf
    exact k_Mo_match_125 C hK hA x1 x2 x3 x4 x5 x6 win won whn wpl wdn wfo wmn wpn wbn wcn wat wnu wdf kh39 ih39 hf hP hD hS (lv_sub hl [0, 1, 2, 3, 4, 5, 6] rfl)
  · have hf := br_neg c_104 hf
    refine lv_iload hx hb d_Mo_match_107 (lv_at hl 4 rfl) ?_
    refine lv_bipush (v := 8) hx hb d_Mo_match_109 (by decide) ?_
    refine lv_icmp_ge (tgt := 125) hx hb d_Mo_match_111 (by decide) (fun c_111 => ?_) (fun c_111 => ?_)
    · have hf := br_pos c_111 hf
      exact k_Mo_match_125 C hK hA x1 x2 x3 x4 x5 x6 win won whn wpl wdn wfo wmn wpn wbn wcn wat wnu wdf kh39 ih39 hf hP hD hS (lv_sub hl [0, 1, 2, 3, 4, 5, 6] rfl)
    · have hf := br_neg c_111 hf
      refine lv_iload hx hb d_Mo_match_114 (lv_at hl 6 rfl) ?_
      refine lv_bipush (v := 8) hx hb d_Mo_match_116 (by decide) ?_
      refine lv_icmp_lt (tgt := 125) hx hb d_Mo_match_118 (by decide) (fun c_118 => ?_) (fun c_118 => ?_)
      · have hf := br_pos c_118 hf
        exact k_Mo_match_125 C hK hA x1 x2 x3 x4 x5 x6 win won whn wpl wdn wfo wmn wpn wbn wcn wat wnu wdf kh39 ih39 hf hP hD hS (lv_sub hl [0, 1, 2, 3, 4, 5, 6] rfl)
      · have hf := br_neg c_118 hf
        exact k_Mo_match_121 C hK hA x1 x2 x3 x4 x5 x6 win won whn wpl wdn wfo wmn wpn wbn wcn wat wnu wdf kh39 ih39 hf hP hD hS (lv_sub hl [0, 1, 2, 3, 4, 5, 6] rfl)
noncomputable def j_Mo_match_82 (x4 : Int32) (x5 : Int32) (x6 : Int32) (wfo : Int32) (kh39 : Int32 → Int32 → Int32 → Option (Int32 × Int32)) : Option (Int32 × Int32) :=
  (j_Mo_match_147 x4 x5 x6 (0 : Int32) wfo kh39)
set_option maxHeartbeats 4000000 in
set_option maxRecDepth 100000 in
theorem k_Mo_match_82 {r_z : Int32} {wfo_z : Int32} (C : Fx p s m args meth c cd_Mo_match 8 R_Mo lw_g (some .int)) (hK : va_K (dC, dI) vwCl [(cB, .byte), (cI, .int), (cJ, .long)] s) (hA : ∀ q, s.heap.size ≤ q → A q) (x1 : Int32) (x2 : Int32) (x3 : Int32) (x4 : Int32) (x5 : Int32) (x6 : Int32) (win : Int32) (won : Int32) (whn : Int32) (wpl : Int32) (wdn : Int32) (wfo : Int32) (wmn : Int32) (wpn : Int32) (wbn : Int32) (wcn : Int32) (wat : Int32) (wnu : Int32) (wdf : Nat → Int32) (kh39 : Int32 → Int32 → Int32 → Option (Int32 × Int32)) (ih39 : ∀ (x4 : Int32) (x5 : Int32) (wfo : Int32), kh39 x4 x5 wfo = some (r_z, wfo_z) → ∀ (H : Heap) (locs : List Loc), va_P (dC, dI) vwCl (wd_Mo_match w wd wi wo wh wm wp wb wc wl cB cI cJ win won whn wpl wdn wfo wmn wpn wbn wcn wat wnu wdf) H → va_D A (wd_Mo_match w wd wi wo wh wm wp wb wc wl cB cI cJ win won whn wpl wdn wfo wmn wpn wbn wcn wat wnu wdf) → va_S A s.heap H locs → ∀ (ls : Array Slot), lv_has ls 8 [(0, .ref w), (1, .int x1), (2, .int x2), (3, .int x3), (4, .int x4), (5, .int x5)] → W p l e rm_Mo_match s m args below meth c H locs 0 0 (MQ below (sQi (dC, dI) vwCl [(cB, .byte), (cI, .int), (cJ, .long)] A r_z (wd_Mo_match w wd wi wo wh wm wp wb wc wl cB cI cJ win won whn wpl wdn wfo_z wmn wpn wbn wcn wat wnu wdf)) args s 0 0 A) (F0 m 39 ls [])) (hf : j_Mo_match_82 x4 x5 x6 wfo kh39 = some (r_z, wfo_z)) (hP : va_P (dC, dI) vwCl (wd_Mo_match w wd wi wo wh wm wp wb wc wl cB cI cJ win won whn wpl wdn wfo wmn wpn wbn wcn wat wnu wdf) H) (hD : va_D A (wd_Mo_match w wd wi wo wh wm wp wb wc wl cB cI cJ win won whn wpl wdn wfo wmn wpn wbn wcn wat wnu wdf)) (hS : va_S A s.heap H locs) (hl : lv_has ls 8 [(0, .ref w), (1, .int x1), (2, .int x2), (3, .int x3), (4, .int x4), (5, .int x5), (6, .int x6)]) : W p l e rm_Mo_match s m args below meth c H locs 0 0 (MQ below (sQi (dC, dI) vwCl [(cB, .byte), (cI, .int), (cJ, .long)] A r_z (wd_Mo_match w wd wi wo wh wm wp wb wc wl cB cI cJ win won whn wpl wdn wfo_z wmn wpn wbn wcn wat wnu wdf)) args s 0 0 A) (F0 m 82 ls []) := by
  obtain ⟨hx, hb, hml, hown, hts, hr, hlocks, hZ⟩ := id C
  unfold j_Mo_match_82 at hf
  refine lv_iconst (v := 0) hx hb d_Mo_match_82 (by decide) ?_
  refine lv_goto (tgt := 147) hx hb d_Mo_match_83 (by decide) ?_
  exact k_Mo_match_147 C hK hA x1 x2 x3 x4 x5 x6 (0 : Int32) win won whn wpl wdn wfo wmn wpn wbn wcn wat wnu wdf kh39 ih39 hf hP hD hS (lv_sub hl [0, 1, 2, 3, 4, 5, 6] rfl)
noncomputable def b_Mo_match_39 (N : Nat) (x1 : Int32) (x2 : Int32) (x3 : Int32) (wdf : Nat → Int32)  (kh39 : Int32 → Int32 → Int32 → Option (Int32 × Int32)) (x4 : Int32) (x5 : Int32) (wfo : Int32) : Option (Int32 × Int32) :=
  (if x5 < 0 then (some (x4, wfo) : Option (Int32 × Int32)) else (if (65535 : Int32) < (x1 - x5) then (some (x4, wfo) : Option (Int32 × Int32)) else bd1 (f_Mo_alike N x5 x1 x3 wdf) (fun r58 => (if x2 = 0 then (if x4 = 0 then (if r58 < (4 : Int32) then (j_Mo_match_82 x4 x5 r58 wfo kh39) else (j_Mo_match_147 x4 x5 r58 (1 : Int32) wfo kh39)) else (j_Mo_match_82 x4 x5 r58 wfo kh39)) else (if x2 = (1 : Int32) then (if x4 = 0 then (if (4 : Int32) ≤ r58 then (j_Mo_match_121 x4 x5 r58 wfo kh39) else (j_Mo_match_102 x4 x5 r58 wfo kh39)) else (j_Mo_match_102 x4 x5 r58 wfo kh39)) else (if r58 < (4 : Int32) then (j_Mo_match_146 x4 x5 r58 wfo kh39) else (if r58 ≤ x4 then (j_Mo_match_146 x4 x5 r58 wfo kh39) else (j_Mo_match_147 x4 x5 r58 (1 : Int32) wfo kh39))))))))
set_option maxHeartbeats 4000000 in
set_option maxRecDepth 100000 in
theorem k_Mo_match_39 {r_z : Int32} {wfo_z : Int32} (C : Fx p s m args meth c cd_Mo_match 8 R_Mo lw_g (some .int)) (hK : va_K (dC, dI) vwCl [(cB, .byte), (cI, .int), (cJ, .long)] s) (hA : ∀ q, s.heap.size ≤ q → A q) (x1 : Int32) (x2 : Int32) (x3 : Int32) (win : Int32) (won : Int32) (whn : Int32) (wpl : Int32) (wdn : Int32) (wmn : Int32) (wpn : Int32) (wbn : Int32) (wcn : Int32) (wat : Int32) (wnu : Int32) (wdf : Nat → Int32)  : ∀ (n : Nat) (x4 : Int32) (x5 : Int32) (wfo : Int32), loop3 (b_Mo_match_39 N x1 x2 x3 wdf ) n x4 x5 wfo = some (r_z, wfo_z) → ∀ (H : Heap) (locs : List Loc), va_P (dC, dI) vwCl (wd_Mo_match w wd wi wo wh wm wp wb wc wl cB cI cJ win won whn wpl wdn wfo wmn wpn wbn wcn wat wnu wdf) H → va_D A (wd_Mo_match w wd wi wo wh wm wp wb wc wl cB cI cJ win won whn wpl wdn wfo wmn wpn wbn wcn wat wnu wdf) → va_S A s.heap H locs → ∀ (ls : Array Slot), lv_has ls 8 [(0, .ref w), (1, .int x1), (2, .int x2), (3, .int x3), (4, .int x4), (5, .int x5)] → W p l e rm_Mo_match s m args below meth c H locs 0 0 (MQ below (sQi (dC, dI) vwCl [(cB, .byte), (cI, .int), (cJ, .long)] A r_z (wd_Mo_match w wd wi wo wh wm wp wb wc wl cB cI cJ win won whn wpl wdn wfo_z wmn wpn wbn wcn wat wnu wdf)) args s 0 0 A) (F0 m 39 ls []) := by
  obtain ⟨hx, hb, hml, hown, hts, hr, hlocks, hZ⟩ := id C
  intro n
  induction n with
  | zero => intro x4 x5 wfo hf; cases hf
  | succ n ih39 =>
    intro x4 x5 wfo hf H locs hP hD hS ls hl
    have hf : b_Mo_match_39 N x1 x2 x3 wdf  (loop3 (b_Mo_match_39 N x1 x2 x3 wdf ) n) x4 x5 wfo = some (r_z, wfo_z) := hf
    generalize loop3 (b_Mo_match_39 N x1 x2 x3 wdf ) n = kh39 at hf ih39
    unfold b_Mo_match_39 at hf
    refine lv_iload hx hb d_Mo_match_39 (lv_at hl 5 rfl) ?_
    refine lv_if_lt (tgt := 173) hx hb d_Mo_match_41 (by decide) (fun c_41 => ?_) (fun c_41 => ?_)
    · have hf := br_pos c_41 hf
      refine lv_iload hx hb d_Mo_match_173 (lv_at hl 4 rfl) ?_
      cases hf
      exact s_iret hx hb hr hlocks hP hK hD hS d_Mo_match_175
    · have hf := br_neg c_41 hf
      refine lv_iload_n hx hb d_Mo_match_44 rfl (lv_at hl 1 rfl) ?_
      refine lv_iload hx hb d_Mo_match_45 (lv_at hl 5 rfl) ?_
      refine lv_isub hx hb d_Mo_match_47 ?_
      refine lv_ldc (v := 65535) hx hb hown (hts _ w_383) d_Mo_match_48 ?_
      refine lv_icmp_gt (tgt := 173) hx hb d_Mo_match_50 (by decide) (fun c_50 => ?_) (fun c_50 => ?_)
      · have hf := br_pos c_50 hf
        refine lv_iload hx hb d_Mo_match_173 (lv_at hl 4 rfl) ?_
        cases hf
        exact s_iret hx hb hr hlocks hP hK hD hS d_Mo_match_175
      · have hf := br_neg c_50 hf
        refine lv_aload_n hx hb d_Mo_match_53 rfl (lv_at hl 0 rfl) ?_
        refine lv_iload hx hb d_Mo_match_54 (lv_at hl 5 rfl) ?_
        refine lv_iload_n hx hb d_Mo_match_56 rfl (lv_at hl 1 rfl) ?_
        refine lv_iload_n hx hb d_Mo_match_57 rfl (lv_at hl 3 rfl) ?_
        obtain ⟨r58, hc58, hf⟩ := bd1_some hf
        refine s_Vi (As := [.int x5, .int x1, .int x3]) (rest := []) (wr := []) (ws' := wd_Mo_match w wd wi wo wh wm wp wb wc wl cB cI cJ win won whn wpl wdn wfo wmn wpn wbn wcn wat wnu wdf) C.call (c_Mo_alike l dC dI cB cI cJ w wd wi wo wh wm wp wb wc wl  win won whn wpl wdn wfo wmn wpn wbn wcn wat wnu wdf x5 x1 x3 hc58) (cwV 3 hts (gd_V w_384 w_385 w_386 w_365 w_387) rfl rfl rfl ⟨rfl, hd_Mo_alike⟩ ⟨Nat.le_of_ble_eq_true rfl, Nat.le_of_ble_eq_true rfl⟩) rfl hl.1 rfl (Nat.le_of_ble_eq_true rfl) d_Mo_match_58 ⟨Nat.le_of_ble_eq_true rfl, Nat.le_of_ble_eq_true rfl⟩ hZ hK hP hD hS hA 7 0 rfl rfl [0, 1] [] [0, 1] rfl rfl rfl rfl (by decide) rfl rfl (fun H locs hP hD hS => ?_)
        refine lv_istore (lv' := [(6, .int r58), (0, .ref w), (1, .int x1), (2, .int x2), (3, .int x3), (4, .int x4), (5, .int x5)]) hx hb d_Mo_match_61 hl (by decide) rfl (fun ls hl => ?_)
        refine lv_iload_n hx hb d_Mo_match_63 rfl (lv_at hl 3 rfl) ?_
        refine lv_if_ne (tgt := 86) hx hb d_Mo_match_64 (by decide) (fun c_64 => ?_) (fun c_64 => ?_)
        · have hf := br_neg c_64 hf
          refine lv_iload_n hx hb d_Mo_match_86 rfl (lv_at hl 3 rfl) ?_
          refine lv_iconst (v := 1) hx hb d_Mo_match_87 (by decide) ?_
          refine lv_icmp_ne (tgt := 129) hx hb d_Mo_match_88 (by decide) (fun c_88 => ?_) (fun c_88 => ?_)
          · have hf := br_neg c_88 hf
            refine lv_iload hx hb d_Mo_match_129 (lv_at hl 0 rfl) ?_
            refine lv_iconst (v := 4) hx hb d_Mo_match_131 (by decide) ?_
            refine lv_icmp_lt (tgt := 146) hx hb d_Mo_match_132 (by decide) (fun c_132 => ?_) (fun c_132 => ?_)
            · have hf := br_pos c_132 hf
              exact k_Mo_match_146 C hK hA x1 x2 x3 x4 x5 r58 win won whn wpl wdn wfo wmn wpn wbn wcn wat wnu wdf kh39 ih39 hf hP hD hS (lv_sub hl [1, 2, 3, 4, 5, 6, 0] rfl)
            · have hf := br_neg c_132 hf
              refine lv_iload hx hb d_Mo_match_135 (lv_at hl 0 rfl) ?_
              refine lv_iload hx hb d_Mo_match_137 (lv_at hl 5 rfl) ?_
              refine lv_icmp_le (tgt := 146) hx hb d_Mo_match_139 (by decide) (fun c_139 => ?_) (fun c_139 => ?_)
              · have hf := br_pos c_139 hf
                exact k_Mo_match_146 C hK hA x1 x2 x3 x4 x5 r58 win won whn wpl wdn wfo wmn wpn wbn wcn wat wnu wdf kh39 ih39 hf hP hD hS (lv_sub hl [1, 2, 3, 4, 5, 6, 0] rfl)
              · have hf := br_neg c_139 hf
                refine lv_iconst (v := 1) hx hb d_Mo_match_142 (by decide) ?_
                refine lv_goto (tgt := 147) hx hb d_Mo_match_143 (by decide) ?_
                exact k_Mo_match_147 C hK hA x1 x2 x3 x4 x5 r58 (1 : Int32) win won whn wpl wdn wfo wmn wpn wbn wcn wat wnu wdf kh39 ih39 hf hP hD hS (lv_sub hl [1, 2, 3, 4, 5, 6, 0] rfl)
          · have hf := br_pos c_88 hf
            refine lv_iload hx hb d_Mo_match_91 (lv_at hl 5 rfl) ?_
            refine lv_if_ne (tgt := 102) hx hb d_Mo_match_93 (by decide) (fun c_93 => ?_) (fun c_93 => ?_)
            · have hf := br_neg c_93 hf
              exact k_Mo_match_102 C hK hA x1 x2 x3 x4 x5 r58 win won whn wpl wdn wfo wmn wpn wbn wcn wat wnu wdf kh39 ih39 hf hP hD hS (lv_sub hl [1, 2, 3, 4, 5, 6, 0] rfl)
            · have hf := br_pos c_93 hf
              refine lv_iload hx hb d_Mo_match_96 (lv_at hl 0 rfl) ?_
              refine lv_iconst (v := 4) hx hb d_Mo_match_98 (by decide) ?_
              refine lv_icmp_ge (tgt := 121) hx hb d_Mo_match_99 (by decide) (fun c_99 => ?_) (fun c_99 => ?_)
              · have hf := br_pos c_99 hf
                exact k_Mo_match_121 C hK hA x1 x2 x3 x4 x5 r58 win won whn wpl wdn wfo wmn wpn wbn wcn wat wnu wdf kh39 ih39 hf hP hD hS (lv_sub hl [1, 2, 3, 4, 5, 6, 0] rfl)
              · have hf := br_neg c_99 hf
                exact k_Mo_match_102 C hK hA x1 x2 x3 x4 x5 r58 win won whn wpl wdn wfo wmn wpn wbn wcn wat wnu wdf kh39 ih39 hf hP hD hS (lv_sub hl [1, 2, 3, 4, 5, 6, 0] rfl)
        · have hf := br_pos c_64 hf
          refine lv_iload hx hb d_Mo_match_67 (lv_at hl 5 rfl) ?_
          refine lv_if_ne (tgt := 82) hx hb d_Mo_match_69 (by decide) (fun c_69 => ?_) (fun c_69 => ?_)
          · have hf := br_neg c_69 hf
            exact k_Mo_match_82 C hK hA x1 x2 x3 x4 x5 r58 win won whn wpl wdn wfo wmn wpn wbn wcn wat wnu wdf kh39 ih39 hf hP hD hS (lv_sub hl [1, 2, 3, 4, 5, 6, 0] rfl)
          · have hf := br_pos c_69 hf
            refine lv_iload hx hb d_Mo_match_72 (lv_at hl 0 rfl) ?_
            refine lv_iconst (v := 4) hx hb d_Mo_match_74 (by decide) ?_
            refine lv_icmp_lt (tgt := 82) hx hb d_Mo_match_75 (by decide) (fun c_75 => ?_) (fun c_75 => ?_)
            · have hf := br_pos c_75 hf
              exact k_Mo_match_82 C hK hA x1 x2 x3 x4 x5 r58 win won whn wpl wdn wfo wmn wpn wbn wcn wat wnu wdf kh39 ih39 hf hP hD hS (lv_sub hl [1, 2, 3, 4, 5, 6, 0] rfl)
            · have hf := br_neg c_75 hf
              refine lv_iconst (v := 1) hx hb d_Mo_match_78 (by decide) ?_
              refine lv_goto (tgt := 147) hx hb d_Mo_match_79 (by decide) ?_
              exact k_Mo_match_147 C hK hA x1 x2 x3 x4 x5 r58 (1 : Int32) win won whn wpl wdn wfo wmn wpn wbn wcn wat wnu wdf kh39 ih39 hf hP hD hS (lv_sub hl [1, 2, 3, 4, 5, 6, 0] rfl)
noncomputable def j_Mo_match_0 (N : Nat) (x1 : Int32) (x2 : Int32) (wdn : Int32) (wfo : Int32) (wdf : Nat → Int32)  : Option (Int32 × Int32) :=
  (if x1 < 0 then (some ((0 : Int32), wfo) : Option (Int32 × Int32)) else (if (wdn - (12 : Int32)) < x1 then (some ((0 : Int32), wfo) : Option (Int32 × Int32)) else (if (4 : Int32) ≤ ((wdn - (5 : Int32)) - x1) then (loop3 (b_Mo_match_39 N x1 x2 ((wdn - (5 : Int32)) - x1) wdf ) N (0 : Int32) (x1 - (1 : Int32)) wfo) else (some ((0 : Int32), wfo) : Option (Int32 × Int32)))))
set_option maxHeartbeats 4000000 in
set_option maxRecDepth 100000 in
theorem k_Mo_match_0 {r_z : Int32} {wfo_z : Int32} (C : Fx p s m args meth c cd_Mo_match 8 R_Mo lw_g (some .int)) (hK : va_K (dC, dI) vwCl [(cB, .byte), (cI, .int), (cJ, .long)] s) (hA : ∀ q, s.heap.size ≤ q → A q) (x1 : Int32) (x2 : Int32) (win : Int32) (won : Int32) (whn : Int32) (wpl : Int32) (wdn : Int32) (wfo : Int32) (wmn : Int32) (wpn : Int32) (wbn : Int32) (wcn : Int32) (wat : Int32) (wnu : Int32) (wdf : Nat → Int32)  (hf : j_Mo_match_0 N x1 x2 wdn wfo wdf  = some (r_z, wfo_z)) (hP : va_P (dC, dI) vwCl (wd_Mo_match w wd wi wo wh wm wp wb wc wl cB cI cJ win won whn wpl wdn wfo wmn wpn wbn wcn wat wnu wdf) H) (hD : va_D A (wd_Mo_match w wd wi wo wh wm wp wb wc wl cB cI cJ win won whn wpl wdn wfo wmn wpn wbn wcn wat wnu wdf)) (hS : va_S A s.heap H locs) (hl : lv_has ls 8 [(0, .ref w), (1, .int x1), (2, .int x2)]) : W p l e rm_Mo_match s m args below meth c H locs 0 0 (MQ below (sQi (dC, dI) vwCl [(cB, .byte), (cI, .int), (cJ, .long)] A r_z (wd_Mo_match w wd wi wo wh wm wp wb wc wl cB cI cJ win won whn wpl wdn wfo_z wmn wpn wbn wcn wat wnu wdf)) args s 0 0 A) (F0 m 0 ls []) := by
  obtain ⟨hx, hb, hml, hown, hts, hr, hlocks, hZ⟩ := id C
  unfold j_Mo_match_0 at hf
  refine lv_aload_n hx hb d_Mo_match_0 rfl (lv_at hl 0 rfl) ?_
  refine va_get (D := (dC, dI)) (ci := 7) (v := .int wdn) (C := R_Mo) (T := T_Mo) (N := 21) hx hb hts w_359 hown hK hP 0 rfl rfl 8 (by decide) (hts _ w_372) (fun _ h9 => h9) rfl d_Mo_match_1 ?_
  refine lv_iconst (v := 5) hx hb d_Mo_match_4 (by decide) ?_
  refine lv_isub hx hb d_Mo_match_5 ?_
  refine lv_iload_n hx hb d_Mo_match_6 rfl (lv_at hl 1 rfl) ?_
  refine lv_isub hx hb d_Mo_match_7 ?_
  refine lv_istore_n (lv' := [(3, .int ((wdn - (5 : Int32)) - x1)), (0, .ref w), (1, .int x1), (2, .int x2)]) hx hb d_Mo_match_8 rfl hl (by decide) rfl (fun ls hl => ?_)
  refine lv_iload_n hx hb d_Mo_match_9 rfl (lv_at hl 2 rfl) ?_
  refine lv_if_lt (tgt := 29) hx hb d_Mo_match_10 (by decide) (fun c_10 => ?_) (fun c_10 => ?_)
  · have hf := br_pos c_10 hf
    refine lv_iconst (v := 0) hx hb d_Mo_match_29 (by decide) ?_
    cases hf
    exact s_iret hx hb hr hlocks hP hK hD hS d_Mo_match_30
  · have hf := br_neg c_10 hf
    refine lv_iload_n hx hb d_Mo_match_13 rfl (lv_at hl 2 rfl) ?_
    refine lv_aload_n hx hb d_Mo_match_14 rfl (lv_at hl 1 rfl) ?_
    refine va_get (D := (dC, dI)) (ci := 7) (v := .int wdn) (C := R_Mo) (T := T_Mo) (N := 21) hx hb hts w_359 hown hK hP 0 rfl rfl 8 (by decide) (hts _ w_372) (fun _ h9 => h9) rfl d_Mo_match_15 ?_
    refine lv_bipush (v := 12) hx hb d_Mo_match_18 (by decide) ?_
    refine lv_isub hx hb d_Mo_match_20 ?_
    refine lv_icmp_gt (tgt := 29) hx hb d_Mo_match_21 (by decide) (fun c_21 => ?_) (fun c_21 => ?_)
    · have hf := br_pos c_21 hf
      refine lv_iconst (v := 0) hx hb d_Mo_match_29 (by decide) ?_
      cases hf
      exact s_iret hx hb hr hlocks hP hK hD hS d_Mo_match_30
    · have hf := br_neg c_21 hf
      refine lv_iload_n hx hb d_Mo_match_24 rfl (lv_at hl 0 rfl) ?_
      refine lv_iconst (v := 4) hx hb d_Mo_match_25 (by decide) ?_
      refine lv_icmp_ge (tgt := 31) hx hb d_Mo_match_26 (by decide) (fun c_26 => ?_) (fun c_26 => ?_)
      · have hf := br_pos c_26 hf
        refine lv_iconst (v := 0) hx hb d_Mo_match_31 (by decide) ?_
        refine lv_istore (lv' := [(4, .int (0 : Int32)), (3, .int ((wdn - (5 : Int32)) - x1)), (0, .ref w), (1, .int x1), (2, .int x2)]) hx hb d_Mo_match_32 hl (by decide) rfl (fun ls hl => ?_)
        refine lv_iload_n hx hb d_Mo_match_34 rfl (lv_at hl 3 rfl) ?_
        refine lv_iconst (v := 1) hx hb d_Mo_match_35 (by decide) ?_
        refine lv_isub hx hb d_Mo_match_36 ?_
        refine lv_istore (lv' := [(5, .int (x1 - (1 : Int32))), (4, .int (0 : Int32)), (3, .int ((wdn - (5 : Int32)) - x1)), (0, .ref w), (1, .int x1), (2, .int x2)]) hx hb d_Mo_match_37 hl (by decide) rfl (fun ls hl => ?_)
        exact k_Mo_match_39 C hK hA x1 x2 ((wdn - (5 : Int32)) - x1) win won whn wpl wdn wmn wpn wbn wcn wat wnu wdf  N (0 : Int32) (x1 - (1 : Int32)) wfo hf _ _ hP hD hS _ (lv_sub hl [3, 4, 5, 2, 1, 0] rfl)
      · have hf := br_neg c_26 hf
        refine lv_iconst (v := 0) hx hb d_Mo_match_29 (by decide) ?_
        cases hf
        exact s_iret hx hb hr hlocks hP hK hD hS d_Mo_match_30
end
noncomputable abbrev f_Mo_match (N : Nat) (x1 : Int32) (x2 : Int32) (wdn : Int32) (wfo : Int32) (wdf : Nat → Int32) : Option (Int32 × Int32) := j_Mo_match_0 N x1 x2 wdn wfo wdf
set_option maxRecDepth 100000 in
theorem c_Mo_match {N : Nat} (l : Launch) (dC : Nat → ClassId) (dI : Nat → Nat → Nat) (cB cI cJ : ClassId) (w wd wi wo wh wm wp wb wc wl : Nat) (win : Int32) (won : Int32) (whn : Int32) (wpl : Int32) (wdn : Int32) (wfo : Int32) (wmn : Int32) (wpn : Int32) (wbn : Int32) (wcn : Int32) (wat : Int32) (wnu : Int32) (wdf : Nat → Int32) (x1 : Int32) (x2 : Int32) {r_z : Int32} {wfo_z : Int32} (hf : f_Mo_match N x1 x2 wdn wfo wdf = some (r_z, wfo_z)) : MetI l y_Mo_match ws_Mo_match rm_Mo_match (dC, dI) vwCl [(cB, .byte), (cI, .int), (cJ, .long)] [.ref w, .int x1, .int x2] (wd_Mo_match w wd wi wo wh wm wp wb wc wl cB cI cJ win won whn wpl wdn wfo wmn wpn wbn wcn wat wnu wdf) r_z (wd_Mo_match w wd wi wo wh wm wp wb wc wl cB cI cJ win won whn wpl wdn wfo_z wmn wpn wbn wcn wat wnu wdf) 0 0 :=
  s_ofi (bytes := cd_Mo_match) (maxL := 8) (ret := (some .int)) (by decide) rfl (Nat.le_of_ble_eq_true rfl) (fun p e s m below meth c A ls C hK hA hP hD hS hl => k_Mo_match_0 C hK hA x1 x2 win won whn wpl wdn wfo wmn wpn wbn wcn wat wnu wdf hf hP hD hS (lv_sub hl [0, 1, 2] rfl))
