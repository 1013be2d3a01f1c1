abbrev wd_Mo_say (w wp wi wo wh wd wm wb wc wl : Nat) (cB cI cJ : ClassId) (win : Int32) (won : Int32) (whn : Int32) (wpl : Int32) (wdn : Int32) (wfo : Int32) (wmn : Int32) (wpn : Int32) (wbn : Int32) (wcn : Int32) (wat : Int32) (wnu : Int32) (wpf : Nat → Int32) : va_W := [(w, .inr (7, [.ref wi, .ref wo, .ref wh, .int win, .int won, .int whn, .int wpl, .ref wd, .int wdn, .int wfo, .ref wm, .int wmn, .ref wp, .int wpn, .ref wb, .int wbn, .ref wc, .int wcn, .ref wl, .int wat, .int wnu])), (wp, .inl (cI, 9000, .inl wpf))]
abbrev rm_Mo_say : Room := { frames := 0, cells := 0, slots := 0, locals := 0 }
section
variable {p : Program} {l : Launch} {e : Env} {s : State} {m : MethodId} {args : Array Value} {below : List Frame} {meth : Method} {c : Code} {dC : Nat → ClassId} {dI : Nat → Nat → Nat} {A : Nat → Prop} {cB cI cJ : ClassId} {H : Heap} {locs : List Loc} {ls : Array Slot} {N : Nat} {w wp wi wo wh wd wm wb wc wl : Nat}
noncomputable def j_Mo_say_20 (wpn : Int32) (wpf : Nat → Int32)  : Option (Int32 × (Nat → Int32)) :=
  (some ((wpn + (1 : Int32)), wpf) : Option (Int32 × (Nat → Int32)))
set_option maxHeartbeats 4000000 in
set_option maxRecDepth 100000 in
theorem k_Mo_say_20 {wpn_z : Int32} {wpf_z : Nat → Int32} (C : Fx p s m args meth c cd_Mo_say 2 R_Mo lw_g none) (hK : va_K (dC, dI) vwCl [(cB, .byte), (cI, .int), (cJ, .long)] s) (hA : ∀ q, s.heap.size ≤ q → A q) (win : Int32) (won : Int32) (whn : Int32) (wpl : Int32) (wdn : Int32) (wfo : Int32) (wmn : Int32) (wpn : Int32) (wbn : Int32) (wcn : Int32) (wat : Int32) (wnu : Int32) (wpf : Nat → Int32)  (hf : j_Mo_say_20 wpn wpf  = some (wpn_z, wpf_z)) (hP : va_P (dC, dI) vwCl (wd_Mo_say w wp wi wo wh wd wm wb wc wl cB cI cJ win won whn wpl wdn wfo wmn wpn wbn wcn wat wnu wpf) H) (hD : va_D A (wd_Mo_say w wp wi wo wh wd wm wb wc wl cB cI cJ win won whn wpl wdn wfo wmn wpn wbn wcn wat wnu wpf)) (hS : va_S A s.heap H locs) (hl : lv_has ls 2 [(0, .ref w)]) : W p l e rm_Mo_say s m args below meth c H locs 0 0 (MQ below (sQv (dC, dI) vwCl [(cB, .byte), (cI, .int), (cJ, .long)] A (wd_Mo_say w wp wi wo wh wd wm wb wc wl cB cI cJ win won whn wpl wdn wfo wmn wpn_z wbn wcn wat wnu wpf_z)) args s 0 0 A) (F0 m 20 ls []) := by
  obtain ⟨hx, hb, hml, hown, hts, hr, hlocks, hZ⟩ := id C
  unfold j_Mo_say_20 at hf
  refine lv_aload_n hx hb d_Mo_say_20 rfl (lv_at hl 0 rfl) ?_
  refine lv_dup hx hb d_Mo_say_21 rfl ?_
  refine va_get (D := (dC, dI)) (ci := 7) (v := .int wpn) (C := R_Mo) (T := T_Mo) (N := 21) hx hb hts w_359 hown hK hP 0 rfl rfl 13 (by decide) (hts _ w_360) (fun _ h9 => h9) rfl d_Mo_say_22 ?_
  refine lv_iconst (v := 1) hx hb d_Mo_say_25 (by decide) ?_
  refine lv_iadd hx hb d_Mo_say_26 ?_
  refine va_put (D := (dC, dI)) (ci := 7) (v := .int (wpn + (1 : Int32))) (ty := .int) (C := R_Mo) (T := T_Mo) (N := 21) hx hb hts w_359 ty_Mo ty_Mo_ok nm_Mo hown hK hP hD hS 0 rfl rfl 13 (by decide) (hts _ w_360) (fun _ h9 => h9) rfl (by decide +kernel) rfl rfl (Nat.le_of_ble_eq_true rfl) d_Mo_say_27 (fun H locs hP hD hS => ?_)
  have hP : va_P (dC, dI) vwCl (wd_Mo_say w wp wi wo wh wd wm wb wc wl cB cI cJ win won whn wpl wdn wfo wmn (wpn + (1 : Int32)) wbn wcn wat wnu wpf) H := hP
  have hD : va_D A (wd_Mo_say w wp wi wo wh wd wm wb wc wl cB cI cJ win won whn wpl wdn wfo wmn (wpn + (1 : Int32)) wbn wcn wat wnu wpf) := hD
  cases hf
  exact s_vret hx hb hr hlocks hP hK hD hS d_Mo_say_30
noncomputable def j_Mo_say_0 (x1 : Int32) (wpn : Int32) (wpf : Nat → Int32)  : Option (Int32 × (Nat → Int32)) :=
  (if (9000 : Int32) ≤ wpn then (j_Mo_say_20 wpn wpf ) else as_ (vp_in wpn 9000) ((j_Mo_say_20 wpn (upd wpf wpn.toNatClampNeg x1) )))
set_option maxHeartbeats 4000000 in
set_option maxRecDepth 100000 in
theorem k_Mo_say_0 {wpn_z : Int32} {wpf_z : Nat → Int32} (C : Fx p s m args meth c cd_Mo_say 2 R_Mo lw_g none) (hK : va_K (dC, dI) vwCl [(cB, .byte), (cI, .int), (cJ, .long)] s) (hA : ∀ q, s.heap.size ≤ q → A q) (x1 : Int32) (win : Int32) (won : Int32) (whn : Int32) (wpl : Int32) (wdn : Int32) (wfo : Int32) (wmn : Int32) (wpn : Int32) (wbn : Int32) (wcn : Int32) (wat : Int32) (wnu : Int32) (wpf : Nat → Int32)  (hf : j_Mo_say_0 x1 wpn wpf  = some (wpn_z, wpf_z)) (hP : va_P (dC, dI) vwCl (wd_Mo_say w wp wi wo wh wd wm wb wc wl cB cI cJ win won whn wpl wdn wfo wmn wpn wbn wcn wat wnu wpf) H) (hD : va_D A (wd_Mo_say w wp wi wo wh wd wm wb wc wl cB cI cJ win won whn wpl wdn wfo wmn wpn wbn wcn wat wnu wpf)) (hS : va_S A s.heap H locs) (hl : lv_has ls 2 [(0, .ref w), (1, .int x1)]) : W p l e rm_Mo_say s m args below meth c H locs 0 0 (MQ below (sQv (dC, dI) vwCl [(cB, .byte), (cI, .int), (cJ, .long)] A (wd_Mo_say w wp wi wo wh wd wm wb wc wl cB cI cJ win won whn wpl wdn wfo wmn wpn_z wbn wcn wat wnu wpf_z)) args s 0 0 A) (F0 m 0 ls []) := by
  obtain ⟨hx, hb, hml, hown, hts, hr, hlocks, hZ⟩ := id C
  unfold j_Mo_say_0 at hf
  refine lv_aload_n hx hb d_Mo_say_0 rfl (lv_at hl 0 rfl) ?_
  refine va_get (D := (dC, dI)) (ci := 7) (v := .int wpn) (C := R_Mo) (T := T_Mo) (N := 21) hx hb hts w_359 hown hK hP 0 rfl rfl 13 (by decide) (hts _ w_360) (fun _ h9 => h9) rfl d_Mo_say_1 ?_
  refine lv_sipush (v := 9000) hx hb d_Mo_say_4 (by decide) ?_
  refine lv_icmp_ge (tgt := 20) hx hb d_Mo_say_7 (by decide) (fun c_7 => ?_) (fun c_7 => ?_)
  · have hf := br_pos c_7 hf
    exact k_Mo_say_20 C hK hA win won whn wpl wdn wfo wmn wpn wbn wcn wat wnu wpf  hf hP hD hS (lv_sub hl [0] rfl)
  · have hf := br_neg c_7 hf
    refine lv_aload_n hx hb d_Mo_say_10 rfl (lv_at hl 0 rfl) ?_
    refine va_get (D := (dC, dI)) (ci := 7) (v := .ref wp) (C := R_Mo) (T := T_Mo) (N := 21) hx hb hts w_359 hown hK hP 0 rfl rfl 12 (by decide) (hts _ w_361) (fun _ h9 => h9) rfl d_Mo_say_11 ?_
    refine lv_aload_n hx hb d_Mo_say_14 rfl (lv_at hl 0 rfl) ?_
    refine va_get (D := (dC, dI)) (ci := 7) (v := .int wpn) (C := R_Mo) (T := T_Mo) (N := 21) hx hb hts w_359 hown hK hP 0 rfl rfl 13 (by decide) (hts _ w_360) (fun _ h9 => h9) rfl d_Mo_say_15 ?_
    refine lv_iload_n hx hb d_Mo_say_18 rfl (lv_at hl 1 rfl) ?_
    obtain ⟨h_in, hf⟩ := as_some hf
    refine va_iast hx hb hK hP hD hS 1 1 rfl rfl h_in d_Mo_say_19 (fun H locs hP hD hS => ?_)
    have hP : va_P (dC, dI) vwCl (wd_Mo_say w wp wi wo wh wd wm wb wc wl cB cI cJ win won whn wpl wdn wfo wmn wpn wbn wcn wat wnu (upd wpf wpn.toNatClampNeg x1)) H := hP
    have hD : va_D A (wd_Mo_say w wp wi wo wh wd wm wb wc wl cB cI cJ win won whn wpl wdn wfo wmn wpn wbn wcn wat wnu (upd wpf wpn.toNatClampNeg x1)) := hD
    exact k_Mo_say_20 C hK hA win won whn wpl wdn wfo wmn wpn wbn wcn wat wnu (upd wpf wpn.toNatClampNeg x1)  hf hP hD hS (lv_sub hl [0] rfl)
end
noncomputable abbrev f_Mo_say (x1 : Int32) (wpn : Int32) (wpf : Nat → Int32) : Option (Int32 × (Nat → Int32)) := j_Mo_say_0 x1 wpn wpf
set_option maxRecDepth 100000 in
theorem c_Mo_say (l : Launch) (dC : Nat → ClassId) (dI : Nat → Nat → Nat) (cB cI cJ : ClassId) (w wp wi wo wh wd wm wb wc wl : Nat) (win : Int32) (won : Int32) (whn : Int32) (wpl : Int32) (wdn : Int32) (wfo : Int32) (wmn : Int32) (wpn : Int32) (wbn : Int32) (wcn : Int32) (wat : Int32) (wnu : Int32) (wpf : Nat → Int32) (x1 : Int32) {wpn_z : Int32} {wpf_z : Nat → Int32} (hf : f_Mo_say x1 wpn wpf = some (wpn_z, wpf_z)) : MetV l y_Mo_say ws_Mo_say rm_Mo_say (dC, dI) vwCl [(cB, .byte), (cI, .int), (cJ, .long)] [.ref w, .int x1] (wd_Mo_say w wp wi wo wh wd wm wb wc wl cB cI cJ win won whn wpl wdn wfo wmn wpn wbn wcn wat wnu wpf)  (wd_Mo_say w wp wi wo wh wd wm wb wc wl cB cI cJ win won whn wpl wdn wfo wmn wpn_z wbn wcn wat wnu wpf_z) 0 0 :=
  s_ofv (bytes := cd_Mo_say) (maxL := 2) (ret := none) (by decide) rfl (Nat.le_of_ble_eq_true rfl) (fun p e s m below meth c A ls C hK hA hP hD hS hl => k_Mo_say_0 C hK hA x1 win won whn wpl wdn wfo wmn wpn wbn wcn wat wnu wpf hf hP hD hS (lv_sub hl [0, 1] rfl))

abbrev wd_Mo_added (w wp wi wo wh wd wm wb wc wl : Nat) (cB cI cJ : ClassId) (win : Int32) (won : Int32) (whn : Int32) (wpl : Int32) (wdn : Int32) (wfo : Int32) (wmn : Int32) (wpn : Int32) (wbn : Int32) (wcn : Int32) (wat : Int32) (wnu : Int32) (wpf : Nat → Int32) : va_W := [(w, .inr (7, [.ref wi, .ref wo, .ref wh, .int win, .int won, .int whn, .int wpl, .ref wd, .int wdn, .int wfo, .ref wm, .int wmn, .ref wp, .int wpn, .ref wb, .int wbn, .ref wc, .int wcn, .ref wl, .int wat, .int wnu])), (wp, .inl (cI, 9000, .inl wpf))]
abbrev rm_Mo_added : Room := { frames := 1, cells := 0, slots := 0, locals := 21 }
section
variable {p : Program} {l : Launch} {e : Env} {s : State} {m : MethodId} {args : Array Value} {below : List Frame} {meth : Method} {c : Code} {dC : Nat → ClassId} {dI : Nat → Nat → Nat} {A : Nat → Prop} {cB cI cJ : ClassId} {H : Heap} {locs : List Loc} {ls : Array Slot} {N : Nat} {w wp wi wo wh wd wm wb wc wl : Nat}
noncomputable def b_Mo_added_5   (kh5 : Int32 → Int32 → (Nat → Int32) → Option (Int32 × (Nat → Int32))) (x2 : Int32) (wpn : Int32) (wpf : Nat → Int32) : Option (Int32 × (Nat → Int32)) :=
  (if x2 < (255 : Int32) then (if x2 < 0 then (some (wpn, wpf) : Option (Int32 × (Nat → Int32))) else bd2 (f_Mo_say x2 wpn wpf) (fun wpn_34 wpf_34 => (some (wpn_34, wpf_34) : Option (Int32 × (Nat → Int32))))) else bd2 (f_Mo_say (255 : Int32) wpn wpf) (fun wpn_16 wpf_16 => (kh5 (x2 + (-255)) wpn_16 wpf_16)))
set_option maxHeartbeats 4000000 in
set_option maxRecDepth 100000 in
theorem k_Mo_added_5 {wpn_z : Int32} {wpf_z : Nat → Int32} (C : Fx p s m args meth c cd_Mo_added 3 R_Mo lw_g none) (hK : va_K (dC, dI) vwCl [(cB, .byte), (cI, .int), (cJ, .long)] s) (hA : ∀ q, s.heap.size ≤ q → A q) (win : Int32) (won : Int32) (whn : Int32) (wpl : Int32) (wdn : Int32) (wfo : Int32) (wmn : Int32) (wbn : Int32) (wcn : Int32) (wat : Int32) (wnu : Int32)  : ∀ (n : Nat) (x2 : Int32) (wpn : Int32) (wpf : Nat → Int32), loop3 (b_Mo_added_5  ) n x2 wpn wpf = some (wpn_z, wpf_z) → ∀ (H : Heap) (locs : List Loc), va_P (dC, dI) vwCl (wd_Mo_added w wp wi wo wh wd wm wb wc wl cB cI cJ win won whn wpl wdn wfo wmn wpn wbn wcn wat wnu wpf) H → va_D A (wd_Mo_added w wp wi wo wh wd wm wb wc wl cB cI cJ win won whn wpl wdn wfo wmn wpn wbn wcn wat wnu wpf) → va_S A s.heap H locs → ∀ (ls : Array Slot), lv_has ls 3 [(0, .ref w), (2, .int x2)] → W p l e rm_Mo_added s m args below meth c H locs 0 0 (MQ below (sQv (dC, dI) vwCl [(cB, .byte), (cI, .int), (cJ, .long)] A (wd_Mo_added w wp wi wo wh wd wm wb wc wl cB cI cJ win won whn wpl wdn wfo wmn wpn_z wbn wcn wat wnu wpf_z)) args s 0 0 A) (F0 m 5 ls []) := by
  obtain ⟨hx, hb, hml, hown, hts, hr, hlocks, hZ⟩ := id C
  intro n
  induction n with
  | zero => intro x2 wpn wpf hf; cases hf
  | succ n ih5 =>
    intro x2 wpn wpf hf H locs hP hD hS ls hl
    have hf : b_Mo_added_5   (loop3 (b_Mo_added_5  ) n) x2 wpn wpf = some (wpn_z, wpf_z) := hf
    generalize loop3 (b_Mo_added_5  ) n = kh5 at hf ih5
    unfold b_Mo_added_5 at hf
    refine lv_iload_n hx hb d_Mo_added_5 rfl (lv_at hl 1 rfl) ?_
    refine lv_sipush (v := 255) hx hb d_Mo_added_6 (by decide) ?_
    refine lv_icmp_lt (tgt := 28) hx hb d_Mo_added_9 (by decide) (fun c_9 => ?_) (fun c_9 => ?_)
    · have hf := br_pos c_9 hf
      refine lv_iload_n hx hb d_Mo_added_28 rfl (lv_at hl 1 rfl) ?_
      refine lv_if_lt (tgt := 37) hx hb d_Mo_added_29 (by decide) (fun c_29 => ?_) (fun c_29 => ?_)
      · have hf := br_pos c_29 hf
        cases hf
        exact s_vret hx hb hr hlocks hP hK hD hS d_Mo_added_37
      · have hf := br_neg c_29 hf
        refine lv_aload_n hx hb d_Mo_added_32 rfl (lv_at hl 0 rfl) ?_
        refine lv_iload_n hx hb d_Mo_added_33 rfl (lv_at hl 1 rfl) ?_
        obtain ⟨wpn_34, wpf_34, hc34, hf⟩ := bd2_some hf
        refine s_Vv (As := [.int x2]) (rest := []) (wr := []) (ws' := wd_Mo_added w wp wi wo wh wd wm wb wc wl cB cI cJ win won whn wpl wdn wfo wmn wpn_34 wbn wcn wat wnu wpf_34) C.call (c_Mo_say l dC dI cB cI cJ w wp wi wo wh wd wm wb wc wl  win won whn wpl wdn wfo wmn wpn wbn wcn wat wnu wpf x2 hc34) (cwV 1 hts (gd_V w_362 w_363 w_364 w_365 w_366) rfl rfl rfl ⟨rfl, hd_Mo_say⟩ ⟨Nat.le_of_ble_eq_true rfl, Nat.le_of_ble_eq_true rfl⟩) rfl hl.1 rfl (Nat.le_of_ble_eq_true rfl) d_Mo_added_34 ⟨Nat.le_of_ble_eq_true rfl, Nat.le_of_ble_eq_true rfl⟩ hZ hK hP hD hS hA 7 0 rfl rfl [0, 1] [] [0, 1] rfl rfl rfl rfl (by decide) rfl rfl (fun H locs hP hD hS => ?_)
        cases hf
        exact s_vret hx hb hr hlocks hP hK hD hS d_Mo_added_37
    · have hf := br_neg c_9 hf
      refine lv_aload_n hx hb d_Mo_added_12 rfl (lv_at hl 0 rfl) ?_
      refine lv_sipush (v := 255) hx hb d_Mo_added_13 (by decide) ?_
      obtain ⟨wpn_16, wpf_16, hc16, hf⟩ := bd2_some hf
      refine s_Vv (As := [.int (255 : Int32)]) (rest := []) (wr := []) (ws' := wd_Mo_added w wp wi wo wh wd wm wb wc wl cB cI cJ win won whn wpl wdn wfo wmn wpn_16 wbn wcn wat wnu wpf_16) C.call (c_Mo_say l dC dI cB cI cJ w wp wi wo wh wd wm wb wc wl  win won whn wpl wdn wfo wmn wpn wbn wcn wat wnu wpf (255 : Int32) hc16) (cwV 1 hts (gd_V w_362 w_363 w_364 w_365 w_366) rfl rfl rfl ⟨rfl, hd_Mo_say⟩ ⟨Nat.le_of_ble_eq_true rfl, Nat.le_of_ble_eq_true rfl⟩) rfl hl.1 rfl (Nat.le_of_ble_eq_true rfl) d_Mo_added_16 ⟨Nat.le_of_ble_eq_true rfl, Nat.le_of_ble_eq_true rfl⟩ hZ hK hP hD hS hA 7 0 rfl rfl [0, 1] [] [0, 1] rfl rfl rfl rfl (by decide) rfl rfl (fun H locs hP hD hS => ?_)
      refine lv_iincW (v := (x2 + (-255))) (lv' := [(2, .int (x2 + (-255))), (0, .ref w)]) hx hb d_Mo_added_19 hl (k := 1) rfl (congrArg (fun z => x2 + z) (by decide)) (by decide) rfl (fun ls hl => ?_)
      refine lv_goto (tgt := 5) hx hb d_Mo_added_25 (by decide) ?_
      exact ih5 (x2 + (-255)) wpn_16 wpf_16 hf _ _ hP hD hS _ (lv_sub hl [1, 0] rfl)
noncomputable def j_Mo_added_0 (N : Nat) (x1 : Int32) (wpn : Int32) (wpf : Nat → Int32)  : Option (Int32 × (Nat → Int32)) :=
  (loop3 (b_Mo_added_5  ) N (x1 - (15 : Int32)) wpn wpf)
set_option maxHeartbeats 4000000 in
set_option maxRecDepth 100000 in
theorem k_Mo_added_0 {wpn_z : Int32} {wpf_z : Nat → Int32} (C : Fx p s m args meth c cd_Mo_added 3 R_Mo lw_g none) (hK : va_K (dC, dI) vwCl [(cB, .byte), (cI, .int), (cJ, .long)] s) (hA : ∀ q, s.heap.size ≤ q → A q) (x1 : Int32) (win : Int32) (won : Int32) (whn : Int32) (wpl : Int32) (wdn : Int32) (wfo : Int32) (wmn : Int32) (wpn : Int32) (wbn : Int32) (wcn : Int32) (wat : Int32) (wnu : Int32) (wpf : Nat → Int32)  (hf : j_Mo_added_0 N x1 wpn wpf  = some (wpn_z, wpf_z)) (hP : va_P (dC, dI) vwCl (wd_Mo_added w wp wi wo wh wd wm wb wc wl cB cI cJ win won whn wpl wdn wfo wmn wpn wbn wcn wat wnu wpf) H) (hD : va_D A (wd_Mo_added w wp wi wo wh wd wm wb wc wl cB cI cJ win won whn wpl wdn wfo wmn wpn wbn wcn wat wnu wpf)) (hS : va_S A s.heap H locs) (hl : lv_has ls 3 [(0, .ref w), (1, .int x1)]) : W p l e rm_Mo_added s m args below meth c H locs 0 0 (MQ below (sQv (dC, dI) vwCl [(cB, .byte), (cI, .int), (cJ, .long)] A (wd_Mo_added w wp wi wo wh wd wm wb wc wl cB cI cJ win won whn wpl wdn wfo wmn wpn_z wbn wcn wat wnu wpf_z)) args s 0 0 A) (F0 m 0 ls []) := by
  obtain ⟨hx, hb, hml, hown, hts, hr, hlocks, hZ⟩ := id C
  unfold j_Mo_added_0 at hf
  refine lv_iload_n hx hb d_Mo_added_0 rfl (lv_at hl 1 rfl) ?_
  refine lv_bipush (v := 15) hx hb d_Mo_added_1 (by decide) ?_
  refine lv_isub hx hb d_Mo_added_3 ?_
  refine lv_istore_n (lv' := [(2, .int (x1 - (15 : Int32))), (0, .ref w), (1, .int x1)]) hx hb d_Mo_added_4 rfl hl (by decide) rfl (fun ls hl => ?_)
  exact k_Mo_added_5 C hK hA win won whn wpl wdn wfo wmn wbn wcn wat wnu  N (x1 - (15 : Int32)) wpn wpf hf _ _ hP hD hS _ (lv_sub hl [1, 0] rfl)
end
noncomputable abbrev f_Mo_added (N : Nat) (x1 : Int32) (wpn : Int32) (wpf : Nat → Int32) : Option (Int32 × (Nat → Int32)) := j_Mo_added_0 N x1 wpn wpf
set_option maxRecDepth 100000 in
theorem c_Mo_added {N : Nat} (l : Launch) (dC : Nat → ClassId) (dI : Nat → Nat → Nat) (cB cI cJ : ClassId) (w wp wi wo wh wd wm wb wc wl : Nat) (win : Int32) (won : Int32) (whn : Int32) (wpl : Int32) (wdn : Int32) (wfo : Int32) (wmn : Int32) (wpn : Int32) (wbn : Int32) (wcn : Int32) (wat : Int32) (wnu : Int32) (wpf : Nat → Int32) (x1 : Int32) {wpn_z : Int32} {wpf_z : Nat → Int32} (hf : f_Mo_added N x1 wpn wpf = some (wpn_z, wpf_z)) : MetV l y_Mo_added ws_Mo_added rm_Mo_added (dC, dI) vwCl [(cB, .byte), (cI, .int), (cJ, .long)] [.ref w, .int x1] (wd_Mo_added w wp wi wo wh wd wm wb wc wl cB cI cJ win won whn wpl wdn wfo wmn wpn wbn wcn wat wnu wpf)  (wd_Mo_added w wp wi wo wh wd wm wb wc wl cB cI cJ win won whn wpl wdn wfo wmn wpn_z wbn wcn wat wnu wpf_z) 0 0 :=
  s_ofv (bytes := cd_Mo_added) (maxL := 3) (ret := none) (by decide) rfl (Nat.le_of_ble_eq_true rfl) (fun p e s m below meth c A ls C hK hA hP hD hS hl => k_Mo_added_0 C hK hA x1 win won whn wpl wdn wfo wmn wpn wbn wcn wat wnu wpf hf hP hD hS (lv_sub hl [0, 1] rfl))

abbrev wd_Mo_adds (w wi wo wh wd wm wp wb wc wl : Nat) (cB cI cJ : ClassId) (win : Int32) (won : Int32) (whn : Int32) (wpl : Int32) (wdn : Int32) (wfo : Int32) (wmn : Int32) (wpn : Int32) (wbn : Int32) (wcn : Int32) (wat : Int32) (wnu : Int32) (wif : Nat → Int32) : va_W := [(w, .inr (7, [.ref wi, .ref wo, .ref wh, .int win, .int won, .int whn, .int wpl, .ref wd, .int wdn, .int wfo, .ref wm, .int wmn, .ref wp, .int wpn, .ref wb, .int wbn, .ref wc, .int wcn, .ref wl, .int wat, .int wnu])), (wi, .inl (cI, 8000, .inl wif))]
abbrev rm_Mo_adds : Room := { frames := 0, cells := 0, slots := 0, locals := 0 }
section
variable {p : Program} {l : Launch} {e : Env} {s : State} {m : MethodId} {args : Array Value} {below : List Frame} {meth : Method} {c : Code} {dC : Nat → ClassId} {dI : Nat → Nat → Nat} {A : Nat → Prop} {cB cI cJ : ClassId} {H : Heap} {locs : List Loc} {ls : Array Slot} {N : Nat} {w wi wo wh wd wm wp wb wc wl : Nat}
noncomputable def j_Mo_adds_69 (t0 : Int32) (wat : Int32) (wnu : Int32) (kh17 : Int32 → Int32 → Int32 → Option (Int32 × Int32 × Int32)) : Option (Int32 × Int32 × Int32) :=
  (kh17 t0 (wat + (1 : Int32)) wnu)
set_option maxHeartbeats 4000000 in
set_option maxRecDepth 100000 in
theorem k_Mo_adds_69 {r_z : Int32} {wat_z : Int32} {wnu_z : Int32} (C : Fx p s m args meth c cd_Mo_adds 4 R_Mo lw_g (some .boolean)) (hK : va_K (dC, dI) vwCl [(cB, .byte), (cI, .int), (cJ, .long)] s) (hA : ∀ q, s.heap.size ≤ q → A q) (x2 : Int32) (t0 : Int32) (win : Int32) (won : Int32) (whn : Int32) (wpl : Int32) (wdn : Int32) (wfo : Int32) (wmn : Int32) (wpn : Int32) (wbn : Int32) (wcn : Int32) (wat : Int32) (wnu : Int32) (wif : Nat → Int32) (kh17 : Int32 → Int32 → Int32 → Option (Int32 × Int32 × Int32)) (ih17 : ∀ (x3 : Int32) (wat : Int32) (wnu : Int32), kh17 x3 wat wnu = some (r_z, wat_z, wnu_z) → ∀ (H : Heap) (locs : List Loc), va_P (dC, dI) vwCl (wd_Mo_adds w wi wo wh wd wm wp wb wc wl cB cI cJ win won whn wpl wdn wfo wmn wpn wbn wcn wat wnu wif) H → va_D A (wd_Mo_adds w wi wo wh wd wm wp wb wc wl cB cI cJ win won whn wpl wdn wfo wmn wpn wbn wcn wat wnu wif) → va_S A s.heap H locs → ∀ (ls : Array Slot), lv_has ls 4 [(0, .ref w), (2, .int x2), (3, .int x3)] → W p l e rm_Mo_adds s m args below meth c H locs 0 0 (MQ below (sQi (dC, dI) vwCl [(cB, .byte), (cI, .int), (cJ, .long)] A r_z (wd_Mo_adds w wi wo wh wd wm wp wb wc wl cB cI cJ win won whn wpl wdn wfo wmn wpn wbn wcn wat_z wnu_z wif)) args s 0 0 A) (F0 m 17 ls [])) (hf : j_Mo_adds_69 t0 wat wnu kh17 = some (r_z, wat_z, wnu_z)) (hP : va_P (dC, dI) vwCl (wd_Mo_adds w wi wo wh wd wm wp wb wc wl cB cI cJ win won whn wpl wdn wfo wmn wpn wbn wcn wat wnu wif) H) (hD : va_D A (wd_Mo_adds w wi wo wh wd wm wp wb wc wl cB cI cJ win won whn wpl wdn wfo wmn wpn wbn wcn wat wnu wif)) (hS : va_S A s.heap H locs) (hl : lv_has ls 4 [(0, .ref w), (2, .int x2)]) : W p l e rm_Mo_adds s m args below meth c H locs 0 0 (MQ below (sQi (dC, dI) vwCl [(cB, .byte), (cI, .int), (cJ, .long)] A r_z (wd_Mo_adds w wi wo wh wd wm wp wb wc wl cB cI cJ win won whn wpl wdn wfo wmn wpn wbn wcn wat_z wnu_z wif)) args s 0 0 A) (F0 m 69 ls [.int t0]) := by
  obtain ⟨hx, hb, hml, hown, hts, hr, hlocks, hZ⟩ := id C
  unfold j_Mo_adds_69 at hf
  refine lv_istore_n (lv' := [(3, .int t0), (0, .ref w), (2, .int x2)]) hx hb d_Mo_adds_69 rfl hl (by decide) rfl (fun ls hl => ?_)
  refine lv_aload_n hx hb d_Mo_adds_70 rfl (lv_at hl 1 rfl) ?_
  refine lv_dup hx hb d_Mo_adds_71 rfl ?_
  refine va_get (D := (dC, dI)) (ci := 7) (v := .int wat) (C := R_Mo) (T := T_Mo) (N := 21) hx hb hts w_359 hown hK hP 0 rfl rfl 19 (by decide) (hts _ w_368) (fun _ h9 => h9) rfl d_Mo_adds_72 ?_
  refine lv_iconst (v := 1) hx hb d_Mo_adds_75 (by decide) ?_
  refine lv_iadd hx hb d_Mo_adds_76 ?_
  refine va_put (D := (dC, dI)) (ci := 7) (v := .int (wat + (1 : Int32))) (ty := .int) (C := R_Mo) (T := T_Mo) (N := 21) hx hb hts w_359 ty_Mo ty_Mo_ok nm_Mo hown hK hP hD hS 0 rfl rfl 19 (by decide) (hts _ w_368) (fun _ h9 => h9) rfl (by decide +kernel) rfl rfl (Nat.le_of_ble_eq_true rfl) d_Mo_adds_77 (fun H locs hP hD hS => ?_)
  have hP : va_P (dC, dI) vwCl (wd_Mo_adds w wi wo wh wd wm wp wb wc wl cB cI cJ win won whn wpl wdn wfo wmn wpn wbn wcn (wat + (1 : Int32)) wnu wif) H := hP
  have hD : va_D A (wd_Mo_adds w wi wo wh wd wm wp wb wc wl cB cI cJ win won whn wpl wdn wfo wmn wpn wbn wcn (wat + (1 : Int32)) wnu wif) := hD
  refine lv_goto (tgt := 17) hx hb d_Mo_adds_80 (by decide) ?_
  exact ih17 t0 (wat + (1 : Int32)) wnu hf _ _ hP hD hS _ (lv_sub hl [1, 2, 0] rfl)
noncomputable def b_Mo_adds_17 (x2 : Int32) (wif : Nat → Int32)  (kh17 : Int32 → Int32 → Int32 → Option (Int32 × Int32 × Int32)) (x3 : Int32) (wat : Int32) (wnu : Int32) : Option (Int32 × Int32 × Int32) :=
  (if x3 = 0 then (some ((1 : Int32), wat, wnu) : Option (Int32 × Int32 × Int32)) else (if wat = x2 then (some ((0 : Int32), wat, wnu) : Option (Int32 × Int32 × Int32)) else as_ (vp_in wat 8000) (as_ (vp_in wat 8000) ((if (wif wat.toNatClampNeg) = (255 : Int32) then (j_Mo_adds_69 (1 : Int32) wat (wnu + (wif wat.toNatClampNeg)) kh17) else (j_Mo_adds_69 (0 : Int32) wat (wnu + (wif wat.toNatClampNeg)) kh17))))))
set_option maxHeartbeats 4000000 in
set_option maxRecDepth 100000 in
theorem k_Mo_adds_17 {r_z : Int32} {wat_z : Int32} {wnu_z : Int32} (C : Fx p s m args meth c cd_Mo_adds 4 R_Mo lw_g (some .boolean)) (hK : va_K (dC, dI) vwCl [(cB, .byte), (cI, .int), (cJ, .long)] s) (hA : ∀ q, s.heap.size ≤ q → A q) (x2 : Int32) (win : Int32) (won : Int32) (whn : Int32) (wpl : Int32) (wdn : Int32) (wfo : Int32) (wmn : Int32) (wpn : Int32) (wbn : Int32) (wcn : Int32) (wif : Nat → Int32)  : ∀ (n : Nat) (x3 : Int32) (wat : Int32) (wnu : Int32), loop3 (b_Mo_adds_17 x2 wif ) n x3 wat wnu = some (r_z, wat_z, wnu_z) → ∀ (H : Heap) (locs : List Loc), va_P (dC, dI) vwCl (wd_Mo_adds w wi wo wh wd wm wp wb wc wl cB cI cJ win won whn wpl wdn wfo wmn wpn wbn wcn wat wnu wif) H → va_D A (wd_Mo_adds w wi wo wh wd wm wp wb wc wl cB cI cJ win won whn wpl wdn wfo wmn wpn wbn wcn wat wnu wif) → va_S A s.heap H locs → ∀ (ls : Array Slot), lv_has ls 4 [(0, .ref w), (2, .int x2), (3, .int x3)] → W p l e rm_Mo_adds s m args below meth c H locs 0 0 (MQ below (sQi (dC, dI) vwCl [(cB, .byte), (cI, .int), (cJ, .long)] A r_z (wd_Mo_adds w wi wo wh wd wm wp wb wc wl cB cI cJ win won whn wpl wdn wfo wmn wpn wbn wcn wat_z wnu_z wif)) args s 0 0 A) (F0 m 17 ls []) := by
  obtain ⟨hx, hb, hml, hown, hts, hr, hlocks, hZ⟩ := id C
  intro n
  induction n with
  | zero => intro x3 wat wnu hf; cases hf
  | succ n ih17 =>
    intro x3 wat wnu hf H locs hP hD hS ls hl
    have hf : b_Mo_adds_17 x2 wif  (loop3 (b_Mo_adds_17 x2 wif ) n) x3 wat wnu = some (r_z, wat_z, wnu_z) := hf
    generalize loop3 (b_Mo_adds_17 x2 wif ) n = kh17 at hf ih17
    unfold b_Mo_adds_17 at hf
    refine lv_iload_n hx hb d_Mo_adds_17 rfl (lv_at hl 2 rfl) ?_
    refine lv_if_eq (tgt := 83) hx hb d_Mo_adds_18 (by decide) (fun c_18 => ?_) (fun c_18 => ?_)
    · have hf := br_pos c_18 hf
      refine lv_iconst (v := 1) hx hb d_Mo_adds_83 (by decide) ?_
      cases hf
      exact s_zret hx hb hr (by decide) hlocks hP hK hD hS d_Mo_adds_84
    · have hf := br_neg c_18 hf
      refine lv_aload_n hx hb d_Mo_adds_21 rfl (lv_at hl 0 rfl) ?_
      refine va_get (D := (dC, dI)) (ci := 7) (v := .int wat) (C := R_Mo) (T := T_Mo) (N := 21) hx hb hts w_359 hown hK hP 0 rfl rfl 19 (by decide) (hts _ w_368) (fun _ h9 => h9) rfl d_Mo_adds_22 ?_
      refine lv_iload_n hx hb d_Mo_adds_25 rfl (lv_at hl 1 rfl) ?_
      refine lv_icmp_ne (tgt := 31) hx hb d_Mo_adds_26 (by decide) (fun c_26 => ?_) (fun c_26 => ?_)
      · have hf := br_neg c_26 hf
        refine lv_aload_n hx hb d_Mo_adds_31 rfl (lv_at hl 0 rfl) ?_
        refine lv_dup hx hb d_Mo_adds_32 rfl ?_
        refine va_get (D := (dC, dI)) (ci := 7) (v := .int wnu) (C := R_Mo) (T := T_Mo) (N := 21) hx hb hts w_359 hown hK hP 0 rfl rfl 20 (by decide) (hts _ w_367) (fun _ h9 => h9) rfl d_Mo_adds_33 ?_
        refine lv_aload_n hx hb d_Mo_adds_36 rfl (lv_at hl 0 rfl) ?_
        refine va_get (D := (dC, dI)) (ci := 7) (v := .ref wi) (C := R_Mo) (T := T_Mo) (N := 21) hx hb hts w_359 hown hK hP 0 rfl rfl 0 (by decide) (hts _ w_369) (fun _ h9 => h9) rfl d_Mo_adds_37 ?_
        refine lv_aload_n hx hb d_Mo_adds_40 rfl (lv_at hl 0 rfl) ?_
        refine va_get (D := (dC, dI)) (ci := 7) (v := .int wat) (C := R_Mo) (T := T_Mo) (N := 21) hx hb hts w_359 hown hK hP 0 rfl rfl 19 (by decide) (hts _ w_368) (fun _ h9 => h9) rfl d_Mo_adds_41 ?_
        obtain ⟨h_in, hf⟩ := as_some hf
        refine va_iald hx hb hK hP 1 1 rfl rfl h_in d_Mo_adds_44 ?_
        refine lv_iadd hx hb d_Mo_adds_45 ?_
        refine va_put (D := (dC, dI)) (ci := 7) (v := .int (wnu + (wif wat.toNatClampNeg))) (ty := .int) (C := R_Mo) (T := T_Mo) (N := 21) hx hb hts w_359 ty_Mo ty_Mo_ok nm_Mo hown hK hP hD hS 0 rfl rfl 20 (by decide) (hts _ w_367) (fun _ h9 => h9) rfl (by decide +kernel) rfl rfl (Nat.le_of_ble_eq_true rfl) d_Mo_adds_46 (fun H locs hP hD hS => ?_)
        have hP : va_P (dC, dI) vwCl (wd_Mo_adds w wi wo wh wd wm wp wb wc wl cB cI cJ win won whn wpl wdn wfo wmn wpn wbn wcn wat (wnu + (wif wat.toNatClampNeg)) wif) H := hP
        have hD : va_D A (wd_Mo_adds w wi wo wh wd wm wp wb wc wl cB cI cJ win won whn wpl wdn wfo wmn wpn wbn wcn wat (wnu + (wif wat.toNatClampNeg)) wif) := hD
        refine lv_aload_n hx hb d_Mo_adds_49 rfl (lv_at hl 0 rfl) ?_
        refine va_get (D := (dC, dI)) (ci := 7) (v := .ref wi) (C := R_Mo) (T := T_Mo) (N := 21) hx hb hts w_359 hown hK hP 0 rfl rfl 0 (by decide) (hts _ w_369) (fun _ h9 => h9) rfl d_Mo_adds_50 ?_
        refine lv_aload_n hx hb d_Mo_adds_53 rfl (lv_at hl 0 rfl) ?_
        refine va_get (D := (dC, dI)) (ci := 7) (v := .int wat) (C := R_Mo) (T := T_Mo) (N := 21) hx hb hts w_359 hown hK hP 0 rfl rfl 19 (by decide) (hts _ w_368) (fun _ h9 => h9) rfl d_Mo_adds_54 ?_
        obtain ⟨h_in, hf⟩ := as_some hf
        refine va_iald hx hb hK hP 1 1 rfl rfl h_in d_Mo_adds_57 ?_
        refine lv_sipush (v := 255) hx hb d_Mo_adds_58 (by decide) ?_
        refine lv_icmp_ne (tgt := 68) hx hb d_Mo_adds_61 (by decide) (fun c_61 => ?_) (fun c_61 => ?_)
        · have hf := br_neg c_61 hf
          refine lv_iconst (v := 0) hx hb d_Mo_adds_68 (by decide) ?_
          exact k_Mo_adds_69 C hK hA x2 (0 : Int32) win won whn wpl wdn wfo wmn wpn wbn wcn wat (wnu + (wif wat.toNatClampNeg)) wif kh17 ih17 hf hP hD hS (lv_sub hl [0, 1] rfl)
        · have hf := br_pos c_61 hf
          refine lv_iconst (v := 1) hx hb d_Mo_adds_64 (by decide) ?_
          refine lv_goto (tgt := 69) hx hb d_Mo_adds_65 (by decide) ?_
          exact k_Mo_adds_69 C hK hA x2 (1 : Int32) win won whn wpl wdn wfo wmn wpn wbn wcn wat (wnu + (wif wat.toNatClampNeg)) wif kh17 ih17 hf hP hD hS (lv_sub hl [0, 1] rfl)
      · have hf := br_pos c_26 hf
        refine lv_iconst (v := 0) hx hb d_Mo_adds_29 (by decide) ?_
        cases hf
        exact s_zret hx hb hr (by decide) hlocks hP hK hD hS d_Mo_adds_30
noncomputable def j_Mo_adds_16 (N : Nat) (x2 : Int32) (t0 : Int32) (wat : Int32) (wnu : Int32) (wif : Nat → Int32)  : Option (Int32 × Int32 × Int32) :=
  (loop3 (b_Mo_adds_17 x2 wif ) N t0 wat wnu)
set_option maxHeartbeats 4000000 in
set_option maxRecDepth 100000 in
theorem k_Mo_adds_16 {r_z : Int32} {wat_z : Int32} {wnu_z : Int32} (C : Fx p s m args meth c cd_Mo_adds 4 R_Mo lw_g (some .boolean)) (hK : va_K (dC, dI) vwCl [(cB, .byte), (cI, .int), (cJ, .long)] s) (hA : ∀ q, s.heap.size ≤ q → A q) (x2 : Int32) (t0 : Int32) (win : Int32) (won : Int32) (whn : Int32) (wpl : Int32) (wdn : Int32) (wfo : Int32) (wmn : Int32) (wpn : Int32) (wbn : Int32) (wcn : Int32) (wat : Int32) (wnu : Int32) (wif : Nat → Int32)  (hf : j_Mo_adds_16 N x2 t0 wat wnu wif  = some (r_z, wat_z, wnu_z)) (hP : va_P (dC, dI) vwCl (wd_Mo_adds w wi wo wh wd wm wp wb wc wl cB cI cJ win won whn wpl wdn wfo wmn wpn wbn wcn wat wnu wif) H) (hD : va_D A (wd_Mo_adds w wi wo wh wd wm wp wb wc wl cB cI cJ win won whn wpl wdn wfo wmn wpn wbn wcn wat wnu wif)) (hS : va_S A s.heap H locs) (hl : lv_has ls 4 [(0, .ref w), (2, .int x2)]) : W p l e rm_Mo_adds s m args below meth c H locs 0 0 (MQ below (sQi (dC, dI) vwCl [(cB, .byte), (cI, .int), (cJ, .long)] A r_z (wd_Mo_adds w wi wo wh wd wm wp wb wc wl cB cI cJ win won whn wpl wdn wfo wmn wpn wbn wcn wat_z wnu_z wif)) args s 0 0 A) (F0 m 16 ls [.int t0]) := by
  obtain ⟨hx, hb, hml, hown, hts, hr, hlocks, hZ⟩ := id C
  unfold j_Mo_adds_16 at hf
  refine lv_istore_n (lv' := [(3, .int t0), (0, .ref w), (2, .int x2)]) hx hb d_Mo_adds_16 rfl hl (by decide) rfl (fun ls hl => ?_)
  exact k_Mo_adds_17 C hK hA x2 win won whn wpl wdn wfo wmn wpn wbn wcn wif  N t0 wat wnu hf _ _ hP hD hS _ (lv_sub hl [1, 2, 0] rfl)
noncomputable def j_Mo_adds_0 (N : Nat) (x1 : Int32) (x2 : Int32) (wat : Int32) (wif : Nat → Int32)  : Option (Int32 × Int32 × Int32) :=
  (if x1 = (15 : Int32) then (j_Mo_adds_16 N x2 (1 : Int32) wat x1 wif ) else (j_Mo_adds_16 N x2 (0 : Int32) wat x1 wif ))
set_option maxHeartbeats 4000000 in
set_option maxRecDepth 100000 in
theorem k_Mo_adds_0 {r_z : Int32} {wat_z : Int32} {wnu_z : Int32} (C : Fx p s m args meth c cd_Mo_adds 4 R_Mo lw_g (some .boolean)) (hK : va_K (dC, dI) vwCl [(cB, .byte), (cI, .int), (cJ, .long)] s) (hA : ∀ q, s.heap.size ≤ q → A q) (x1 : Int32) (x2 : Int32) (win : Int32) (won : Int32) (whn : Int32) (wpl : Int32) (wdn : Int32) (wfo : Int32) (wmn : Int32) (wpn : Int32) (wbn : Int32) (wcn : Int32) (wat : Int32) (wnu : Int32) (wif : Nat → Int32)  (hf : j_Mo_adds_0 N x1 x2 wat wif  = some (r_z, wat_z, wnu_z)) (hP : va_P (dC, dI) vwCl (wd_Mo_adds w wi wo wh wd wm wp wb wc wl cB cI cJ win won whn wpl wdn wfo wmn wpn wbn wcn wat wnu wif) H) (hD : va_D A (wd_Mo_adds w wi wo wh wd wm wp wb wc wl cB cI cJ win won whn wpl wdn wfo wmn wpn wbn wcn wat wnu wif)) (hS : va_S A s.heap H locs) (hl : lv_has ls 4 [(0, .ref w), (1, .int x1), (2, .int x2)]) : W p l e rm_Mo_adds s m args below meth c H locs 0 0 (MQ below (sQi (dC, dI) vwCl [(cB, .byte), (cI, .int), (cJ, .long)] A r_z (wd_Mo_adds w wi wo wh wd wm wp wb wc wl cB cI cJ win won whn wpl wdn wfo wmn wpn wbn wcn wat_z wnu_z wif)) args s 0 0 A) (F0 m 0 ls []) := by
  obtain ⟨hx, hb, hml, hown, hts, hr, hlocks, hZ⟩ := id C
  unfold j_Mo_adds_0 at hf
  refine lv_aload_n hx hb d_Mo_adds_0 rfl (lv_at hl 0 rfl) ?_
  refine lv_iload_n hx hb d_Mo_adds_1 rfl (lv_at hl 1 rfl) ?_
  refine va_put (D := (dC, dI)) (ci := 7) (v := .int x1) (ty := .int) (C := R_Mo) (T := T_Mo) (N := 21) hx hb hts w_359 ty_Mo ty_Mo_ok nm_Mo hown hK hP hD hS 0 rfl rfl 20 (by decide) (hts _ w_367) (fun _ h9 => h9) rfl (by decide +kernel) rfl rfl (Nat.le_of_ble_eq_true rfl) d_Mo_adds_2 (fun H locs hP hD hS => ?_)
  have hP : va_P (dC, dI) vwCl (wd_Mo_adds w wi wo wh wd wm wp wb wc wl cB cI cJ win won whn wpl wdn wfo wmn wpn wbn wcn wat x1 wif) H := hP
  have hD : va_D A (wd_Mo_adds w wi wo wh wd wm wp wb wc wl cB cI cJ win won whn wpl wdn wfo wmn wpn wbn wcn wat x1 wif) := hD
  refine lv_iload_n hx hb d_Mo_adds_5 rfl (lv_at hl 1 rfl) ?_
  refine lv_bipush (v := 15) hx hb d_Mo_adds_6 (by decide) ?_
  refine lv_icmp_ne (tgt := 15) hx hb d_Mo_adds_8 (by decide) (fun c_8 => ?_) (fun c_8 => ?_)
  · have hf := br_neg c_8 hf
    refine lv_iconst (v := 0) hx hb d_Mo_adds_15 (by decide) ?_
    exact k_Mo_adds_16 C hK hA x2 (0 : Int32) win won whn wpl wdn wfo wmn wpn wbn wcn wat x1 wif  hf hP hD hS (lv_sub hl [0, 2] rfl)
  · have hf := br_pos c_8 hf
    refine lv_iconst (v := 1) hx hb d_Mo_adds_11 (by decide) ?_
    refine lv_goto (tgt := 16) hx hb d_Mo_adds_12 (by decide) ?_
    exact k_Mo_adds_16 C hK hA x2 (1 : Int32) win won whn wpl wdn wfo wmn wpn wbn wcn wat x1 wif  hf hP hD hS (lv_sub hl [0, 2] rfl)
end
noncomputable abbrev f_Mo_adds (N : Nat) (x1 : Int32) (x2 : Int32) (wat : Int32) (wif : Nat → Int32) : Option (Int32 × Int32 × Int32) := j_Mo_adds_0 N x1 x2 wat wif
set_option maxRecDepth 100000 in
theorem c_Mo_adds {N : Nat} (l : Launch) (dC : Nat → ClassId) (dI : Nat → Nat → Nat) (cB cI cJ : ClassId) (w wi wo wh wd wm wp wb wc wl : Nat) (win : Int32) (won : Int32) (whn : Int32) (wpl : Int32) (wdn : Int32) (wfo : Int32) (wmn : Int32) (wpn : Int32) (wbn : Int32) (wcn : Int32) (wat : Int32) (wnu : Int32) (wif : Nat → Int32) (x1 : Int32) (x2 : Int32) {r_z : Int32} {wat_z : Int32} {wnu_z : Int32} (hf : f_Mo_adds N x1 x2 wat wif = some (r_z, wat_z, wnu_z)) : MetI l y_Mo_adds ws_Mo_adds rm_Mo_adds (dC, dI) vwCl [(cB, .byte), (cI, .int), (cJ, .long)] [.ref w, .int x1, .int x2] (wd_Mo_adds w wi wo wh wd wm wp wb wc wl cB cI cJ win won whn wpl wdn wfo wmn wpn wbn wcn wat wnu wif) r_z (wd_Mo_adds w wi wo wh wd wm wp wb wc wl cB cI cJ win won whn wpl wdn wfo wmn wpn wbn wcn wat_z wnu_z wif) 0 0 :=
  s_ofi (bytes := cd_Mo_adds) (maxL := 4) (ret := (some .boolean)) (by decide) rfl (Nat.le_of_ble_eq_true rfl) (fun p e s m below meth c A ls C hK hA hP hD hS hl => k_Mo_adds_0 C hK hA x1 x2 win won whn wpl wdn wfo wmn wpn wbn wcn wat wnu wif hf hP hD hS (lv_sub hl [0, 1, 2] rfl))

abbrev wd_Mo_again (w wi wo wh wd wm wp wb wc wl : Nat) (cB cI cJ : ClassId) (win : Int32) (won : Int32) (whn : Int32) (wpl : Int32) (wdn : Int32) (wfo : Int32) (wmn : Int32) (wpn : Int32) (wbn : Int32) (wcn : Int32) (wat : Int32) (wnu : Int32) (wif : Nat → Int32) : va_W := [(w, .inr (7, [.ref wi, .ref wo, .ref wh, .int win, .int won, .int whn, .int wpl, .ref wd, .int wdn, .int wfo, .ref wm, .int wmn, .ref wp, .int wpn, .ref wb, .int wbn, .ref wc, .int wcn, .ref wl, .int wat, .int wnu])), (wi, .inl (cI, 8000, .inl wif))]
abbrev rm_Mo_again : Room := { frames := 0, cells := 0, slots := 0, locals := 0 }
section
variable {p : Program} {l : Launch} {e : Env} {s : State} {m : MethodId} {args : Array Value} {below : List Frame} {meth : Method} {c : Code} {dC : Nat → ClassId} {dI : Nat → Nat → Nat} {A : Nat → Prop} {cB cI cJ : ClassId} {H : Heap} {locs : List Loc} {ls : Array Slot} {N : Nat} {w wi wo wh wd wm wp wb wc wl : Nat}
noncomputable def b_Mo_again_39 (x1 : Int32) (x2 : Int32)  (kh39 : Int32 → Int32 → (Nat → Int32) → Option (Int32 × Int32 × (Nat → Int32))) (x3 : Int32) (win : Int32) (wif : Nat → Int32) : Option (Int32 × Int32 × (Nat → Int32)) :=
  (if (x1 * x2) ≤ x3 then (some ((1 : Int32), win, wif) : Option (Int32 × Int32 × (Nat → Int32))) else as_ (vp_in (win - x1) 8000) (as_ (vp_in win 8000) ((kh39 (x3 + 1) (win + (1 : Int32)) (upd wif win.toNatClampNeg (wif (win - x1).toNatClampNeg))))))
set_option maxHeartbeats 4000000 in
set_option maxRecDepth 100000 in
theorem k_Mo_again_39 {r_z : Int32} {win_z : Int32} {wif_z : Nat → Int32} (C : Fx p s m args meth c cd_Mo_again 4 R_Mo lw_g (some .boolean)) (hK : va_K (dC, dI) vwCl [(cB, .byte), (cI, .int), (cJ, .long)] s) (hA : ∀ q, s.heap.size ≤ q → A q) (x1 : Int32) (x2 : Int32) (won : Int32) (whn : Int32) (wpl : Int32) (wdn : Int32) (wfo : Int32) (wmn : Int32) (wpn : Int32) (wbn : Int32) (wcn : Int32) (wat : Int32) (wnu : Int32)  : ∀ (n : Nat) (x3 : Int32) (win : Int32) (wif : Nat → Int32), loop3 (b_Mo_again_39 x1 x2 ) n x3 win wif = some (r_z, win_z, wif_z) → ∀ (H : Heap) (locs : List Loc), va_P (dC, dI) vwCl (wd_Mo_again w wi wo wh wd wm wp wb wc wl cB cI cJ win won whn wpl wdn wfo wmn wpn wbn wcn wat wnu wif) H → va_D A (wd_Mo_again w wi wo wh wd wm wp wb wc wl cB cI cJ win won whn wpl wdn wfo wmn wpn wbn wcn wat wnu wif) → va_S A s.heap H locs → ∀ (ls : Array Slot), lv_has ls 4 [(0, .ref w), (1, .int x1), (2, .int x2), (3, .int x3)] → W p l e rm_Mo_again s m args below meth c H locs 0 0 (MQ below (sQi (dC, dI) vwCl [(cB, .byte), (cI, .int), (cJ, .long)] A r_z (wd_Mo_again w wi wo wh wd wm wp wb wc wl cB cI cJ win_z won whn wpl wdn wfo wmn wpn wbn wcn wat wnu wif_z)) args s 0 0 A) (F0 m 39 ls []) := by
  obtain ⟨hx, hb, hml, hown, hts, hr, hlocks, hZ⟩ := id C
  intro n
  induction n with
  | zero => intro x3 win wif hf; cases hf
  | succ n ih39 =>
    intro x3 win wif hf H locs hP hD hS ls hl
    have hf : b_Mo_again_39 x1 x2  (loop3 (b_Mo_again_39 x1 x2 ) n) x3 win wif = some (r_z, win_z, wif_z) := hf
    generalize loop3 (b_Mo_again_39 x1 x2 ) n = kh39 at hf ih39
    unfold b_Mo_again_39 at hf
    refine lv_iload_n hx hb d_Mo_again_39 rfl (lv_at hl 3 rfl) ?_
    refine lv_iload_n hx hb d_Mo_again_40 rfl (lv_at hl 1 rfl) ?_
    refine lv_iload_n hx hb d_Mo_again_41 rfl (lv_at hl 2 rfl) ?_
    refine lv_imul hx hb d_Mo_again_42 ?_
    refine lv_icmp_ge (tgt := 82) hx hb d_Mo_again_43 (by decide) (fun c_43 => ?_) (fun c_43 => ?_)
    · have hf := br_pos c_43 hf
      refine lv_iconst (v := 1) hx hb d_Mo_again_82 (by decide) ?_
      cases hf
      exact s_zret hx hb hr (by decide) hlocks hP hK hD hS d_Mo_again_83
    · have hf := br_neg c_43 hf
      refine lv_aload_n hx hb d_Mo_again_46 rfl (lv_at hl 0 rfl) ?_
      refine va_get (D := (dC, dI)) (ci := 7) (v := .ref wi) (C := R_Mo) (T := T_Mo) (N := 21) hx hb hts w_359 hown hK hP 0 rfl rfl 0 (by decide) (hts _ w_369) (fun _ h9 => h9) rfl d_Mo_again_47 ?_
      refine lv_aload_n hx hb d_Mo_again_50 rfl (lv_at hl 0 rfl) ?_
      refine va_get (D := (dC, dI)) (ci := 7) (v := .int win) (C := R_Mo) (T := T_Mo) (N := 21) hx hb hts w_359 hown hK hP 0 rfl rfl 3 (by decide) (hts _ w_370) (fun _ h9 => h9) rfl d_Mo_again_51 ?_
      refine lv_aload_n hx hb d_Mo_again_54 rfl (lv_at hl 0 rfl) ?_
      refine va_get (D := (dC, dI)) (ci := 7) (v := .ref wi) (C := R_Mo) (T := T_Mo) (N := 21) hx hb hts w_359 hown hK hP 0 rfl rfl 0 (by decide) (hts _ w_369) (fun _ h9 => h9) rfl d_Mo_again_55 ?_
      refine lv_aload_n hx hb d_Mo_again_58 rfl (lv_at hl 0 rfl) ?_
      refine va_get (D := (dC, dI)) (ci := 7) (v := .int win) (C := R_Mo) (T := T_Mo) (N := 21) hx hb hts w_359 hown hK hP 0 rfl rfl 3 (by decide) (hts _ w_370) (fun _ h9 => h9) rfl d_Mo_again_59 ?_
      refine lv_iload_n hx hb d_Mo_again_62 rfl (lv_at hl 1 rfl) ?_
      refine lv_isub hx hb d_Mo_again_63 ?_
      obtain ⟨h_in, hf⟩ := as_some hf
      refine va_iald hx hb hK hP 1 1 rfl rfl h_in d_Mo_again_64 ?_
      obtain ⟨h_in, hf⟩ := as_some hf
      refine va_iast hx hb hK hP hD hS 1 1 rfl rfl h_in d_Mo_again_65 (fun H locs hP hD hS => ?_)
      have hP : va_P (dC, dI) vwCl (wd_Mo_again w wi wo wh wd wm wp wb wc wl cB cI cJ win won whn wpl wdn wfo wmn wpn wbn wcn wat wnu (upd wif win.toNatClampNeg (wif (win - x1).toNatClampNeg))) H := hP
      have hD : va_D A (wd_Mo_again w wi wo wh wd wm wp wb wc wl cB cI cJ win won whn wpl wdn wfo wmn wpn wbn wcn wat wnu (upd wif win.toNatClampNeg (wif (win - x1).toNatClampNeg))) := hD
      refine lv_aload_n hx hb d_Mo_again_66 rfl (lv_at hl 0 rfl) ?_
      refine lv_dup hx hb d_Mo_again_67 rfl ?_
      refine va_get (D := (dC, dI)) (ci := 7) (v := .int win) (C := R_Mo) (T := T_Mo) (N := 21) hx hb hts w_359 hown hK hP 0 rfl rfl 3 (by decide) (hts _ w_370) (fun _ h9 => h9) rfl d_Mo_again_68 ?_
      refine lv_iconst (v := 1) hx hb d_Mo_again_71 (by decide) ?_
      refine lv_iadd hx hb d_Mo_again_72 ?_
      refine va_put (D := (dC, dI)) (ci := 7) (v := .int (win + (1 : Int32))) (ty := .int) (C := R_Mo) (T := T_Mo) (N := 21) hx hb hts w_359 ty_Mo ty_Mo_ok nm_Mo hown hK hP hD hS 0 rfl rfl 3 (by decide) (hts _ w_370) (fun _ h9 => h9) rfl (by decide +kernel) rfl rfl (Nat.le_of_ble_eq_true rfl) d_Mo_again_73 (fun H locs hP hD hS => ?_)
      have hP : va_P (dC, dI) vwCl (wd_Mo_again w wi wo wh wd wm wp wb wc wl cB cI cJ (win + (1 : Int32)) won whn wpl wdn wfo wmn wpn wbn wcn wat wnu (upd wif win.toNatClampNeg (wif (win - x1).toNatClampNeg))) H := hP
      have hD : va_D A (wd_Mo_again w wi wo wh wd wm wp wb wc wl cB cI cJ (win + (1 : Int32)) won whn wpl wdn wfo wmn wpn wbn wcn wat wnu (upd wif win.toNatClampNeg (wif (win - x1).toNatClampNeg))) := hD
      refine lv_iinc (v := (x3 + 1)) (lv' := [(3, .int (x3 + 1)), (0, .ref w), (1, .int x1), (2, .int x2)]) hx hb d_Mo_again_76 hl (k := 3) rfl (congrArg (fun z => x3 + z) (by decide)) (by decide) rfl (fun ls hl => ?_)
      refine lv_goto (tgt := 39) hx hb d_Mo_again_79 (by decide) ?_
      exact ih39 (x3 + 1) (win + (1 : Int32)) (upd wif win.toNatClampNeg (wif (win - x1).toNatClampNeg)) hf _ _ hP hD hS _ (lv_sub hl [1, 2, 3, 0] rfl)
noncomputable def j_Mo_again_0 (N : Nat) (x1 : Int32) (x2 : Int32) (win : Int32) (wif : Nat → Int32)  : Option (Int32 × Int32 × (Nat → Int32)) :=
  (if x1 < (1 : Int32) then (some ((0 : Int32), win, wif) : Option (Int32 × Int32 × (Nat → Int32))) else (if win < x1 then (some ((0 : Int32), win, wif) : Option (Int32 × Int32 × (Nat → Int32))) else (if x2 < 0 then (some ((0 : Int32), win, wif) : Option (Int32 × Int32 × (Nat → Int32))) else (if (lg_cmp ((x1.toInt64) * (x2.toInt64)) (((8000 : Int32) - win).toInt64)) ≤ 0 then (loop3 (b_Mo_again_39 x1 x2 ) N (0 : Int32) win wif) else (some ((0 : Int32), win, wif) : Option (Int32 × Int32 × (Nat → Int32)))))))
set_option maxHeartbeats 4000000 in
set_option maxRecDepth 100000 in
theorem k_Mo_again_0 {r_z : Int32} {win_z : Int32} {wif_z : Nat → Int32} (C : Fx p s m args meth c cd_Mo_again 4 R_Mo lw_g (some .boolean)) (hK : va_K (dC, dI) vwCl [(cB, .byte), (cI, .int), (cJ, .long)] s) (hA : ∀ q, s.heap.size ≤ q → A q) (x1 : Int32) (x2 : Int32) (win : Int32) (won : Int32) (whn : Int32) (wpl : Int32) (wdn : Int32) (wfo : Int32) (wmn : Int32) (wpn : Int32) (wbn : Int32) (wcn : Int32) (wat : Int32) (wnu : Int32) (wif : Nat → Int32)  (hf : j_Mo_again_0 N x1 x2 win wif  = some (r_z, win_z, wif_z)) (hP : va_P (dC, dI) vwCl (wd_Mo_again w wi wo wh wd wm wp wb wc wl cB cI cJ win won whn wpl wdn wfo wmn wpn wbn wcn wat wnu wif) H) (hD : va_D A (wd_Mo_again w wi wo wh wd wm wp wb wc wl cB cI cJ win won whn wpl wdn wfo wmn wpn wbn wcn wat wnu wif)) (hS : va_S A s.heap H locs) (hl : lv_has ls 4 [(0, .ref w), (1, .int x1), (2, .int x2)]) : W p l e rm_Mo_again s m args below meth c H locs 0 0 (MQ below (sQi (dC, dI) vwCl [(cB, .byte), (cI, .int), (cJ, .long)] A r_z (wd_Mo_again w wi wo wh wd wm wp wb wc wl cB cI cJ win_z won whn wpl wdn wfo wmn wpn wbn wcn wat wnu wif_z)) args s 0 0 A) (F0 m 0 ls []) := by
  obtain ⟨hx, hb, hml, hown, hts, hr, hlocks, hZ⟩ := id C
  unfold j_Mo_again_0 at hf
  refine lv_iload_n hx hb d_Mo_again_0 rfl (lv_at hl 1 rfl) ?_
  refine lv_iconst (v := 1) hx hb d_Mo_again_1 (by decide) ?_
  refine lv_icmp_lt (tgt := 35) hx hb d_Mo_again_2 (by decide) (fun c_2 => ?_) (fun c_2 => ?_)
  · have hf := br_pos c_2 hf
    refine lv_iconst (v := 0) hx hb d_Mo_again_35 (by decide) ?_
    cases hf
    exact s_zret hx hb hr (by decide) hlocks hP hK hD hS d_Mo_again_36
  · have hf := br_neg c_2 hf
    refine lv_iload_n hx hb d_Mo_again_5 rfl (lv_at hl 1 rfl) ?_
    refine lv_aload_n hx hb d_Mo_again_6 rfl (lv_at hl 0 rfl) ?_
    refine va_get (D := (dC, dI)) (ci := 7) (v := .int win) (C := R_Mo) (T := T_Mo) (N := 21) hx hb hts w_359 hown hK hP 0 rfl rfl 3 (by decide) (hts _ w_370) (fun _ h9 => h9) rfl d_Mo_again_7 ?_
    refine lv_icmp_gt (tgt := 35) hx hb d_Mo_again_10 (by decide) (fun c_10 => ?_) (fun c_10 => ?_)
    · have hf := br_pos c_10 hf
      refine lv_iconst (v := 0) hx hb d_Mo_again_35 (by decide) ?_
      cases hf
      exact s_zret hx hb hr (by decide) hlocks hP hK hD hS d_Mo_again_36
    · have hf := br_neg c_10 hf
      refine lv_iload_n hx hb d_Mo_again_13 rfl (lv_at hl 2 rfl) ?_
      refine lv_if_lt (tgt := 35) hx hb d_Mo_again_14 (by decide) (fun c_14 => ?_) (fun c_14 => ?_)
      · have hf := br_pos c_14 hf
        refine lv_iconst (v := 0) hx hb d_Mo_again_35 (by decide) ?_
        cases hf
        exact s_zret hx hb hr (by decide) hlocks hP hK hD hS d_Mo_again_36
      · have hf := br_neg c_14 hf
        refine lv_iload_n hx hb d_Mo_again_17 rfl (lv_at hl 1 rfl) ?_
        refine lv_i2l (v := (x1.toInt64)) hx hb d_Mo_again_18 rfl ?_
        refine lv_iload_n hx hb d_Mo_again_19 rfl (lv_at hl 2 rfl) ?_
        refine lv_i2l (v := (x2.toInt64)) hx hb d_Mo_again_20 rfl ?_
        refine lv_lmul hx hb d_Mo_again_21 ?_
        refine lv_sipush (v := 8000) hx hb d_Mo_again_22 (by decide) ?_
        refine lv_aload_n hx hb d_Mo_again_25 rfl (lv_at hl 0 rfl) ?_
        refine va_get (D := (dC, dI)) (ci := 7) (v := .int win) (C := R_Mo) (T := T_Mo) (N := 21) hx hb hts w_359 hown hK hP 0 rfl rfl 3 (by decide) (hts _ w_370) (fun _ h9 => h9) rfl d_Mo_again_26 ?_
        refine lv_isub hx hb d_Mo_again_29 ?_
        refine lv_i2l (v := (((8000 : Int32) - win).toInt64)) hx hb d_Mo_again_30 rfl ?_
        refine W.lcmp hx hb d_Mo_again_31 ?_
        refine lv_if_le (tgt := 37) hx hb d_Mo_again_32 (by decide) (fun c_32 => ?_) (fun c_32 => ?_)
        · have hf := br_pos c_32 hf
          refine lv_iconst (v := 0) hx hb d_Mo_again_37 (by decide) ?_
          refine lv_istore_n (lv' := [(3, .int (0 : Int32)), (0, .ref w), (1, .int x1), (2, .int x2)]) hx hb d_Mo_again_38 rfl hl (by decide) rfl (fun ls hl => ?_)
          exact k_Mo_again_39 C hK hA x1 x2 won whn wpl wdn wfo wmn wpn wbn wcn wat wnu  N (0 : Int32) win wif hf _ _ hP hD hS _ (lv_sub hl [1, 2, 3, 0] rfl)
        · have hf := br_neg c_32 hf
          refine lv_iconst (v := 0) hx hb d_Mo_again_35 (by decide) ?_
          cases hf
          exact s_zret hx hb hr (by decide) hlocks hP hK hD hS d_Mo_again_36
end
noncomputable abbrev f_Mo_again (N : Nat) (x1 : Int32) (x2 : Int32) (win : Int32) (wif : Nat → Int32) : Option (Int32 × Int32 × (Nat → Int32)) := j_Mo_again_0 N x1 x2 win wif
set_option maxRecDepth 100000 in
theorem c_Mo_again {N : Nat} (l : Launch) (dC : Nat → ClassId) (dI : Nat → Nat → Nat) (cB cI cJ : ClassId) (w wi wo wh wd wm wp wb wc wl : Nat) (win : Int32) (won : Int32) (whn : Int32) (wpl : Int32) (wdn : Int32) (wfo : Int32) (wmn : Int32) (wpn : Int32) (wbn : Int32) (wcn : Int32) (wat : Int32) (wnu : Int32) (wif : Nat → Int32) (x1 : Int32) (x2 : Int32) {r_z : Int32} {win_z : Int32} {wif_z : Nat → Int32} (hf : f_Mo_again N x1 x2 win wif = some (r_z, win_z, wif_z)) : MetI l y_Mo_again ws_Mo_again rm_Mo_again (dC, dI) vwCl [(cB, .byte), (cI, .int), (cJ, .long)] [.ref w, .int x1, .int x2] (wd_Mo_again w wi wo wh wd wm wp wb wc wl cB cI cJ win won whn wpl wdn wfo wmn wpn wbn wcn wat wnu wif) r_z (wd_Mo_again w wi wo wh wd wm wp wb wc wl cB cI cJ win_z won whn wpl wdn wfo wmn wpn wbn wcn wat wnu wif_z) 0 0 :=
  s_ofi (bytes := cd_Mo_again) (maxL := 4) (ret := (some .boolean)) (by decide) rfl (Nat.le_of_ble_eq_true rfl) (fun p e s m below meth c A ls C hK hA hP hD hS hl => k_Mo_again_0 C hK hA x1 x2 win won whn wpl wdn wfo wmn wpn wbn wcn wat wnu wif hf hP hD hS (lv_sub hl [0, 1, 2] rfl))

abbrev wd_Mo_alike (w wd wi wo wh wm wp wb wc wl : Nat) (cB cI cJ : ClassId) (win : Int32) (won : Int32) (whn : Int32) (wpl : Int32) (wdn : Int32) (wfo : Int32) (wmn : Int32) (wpn : Int32) (wbn : Int32) (wcn : Int32) (wat : Int32) (wnu : Int32) (wdf : Nat → Int32) : va_W := [(w, .inr (7, [.ref wi, .ref wo, .ref wh, .int win, .int won, .int whn, .int wpl, .ref wd, .int wdn, .int wfo, .ref wm, .int wmn, .ref wp, .int wpn, .ref wb, .int wbn, .ref wc, .int wcn, .ref wl, .int wat, .int wnu])), (wd, .inl (cI, 16000, .inl wdf))]
abbrev rm_Mo_alike : Room := { frames := 0, cells := 0, slots := 0, locals := 0 }
section
variable {p : Program} {l : Launch} {e : Env} {s : State} {m : MethodId} {args : Array Value} {below : List Frame} {meth : Method} {c : Code} {dC : Nat → ClassId} {dI : Nat → Nat → Nat} {A : Nat → Prop} {cB cI cJ : ClassId} {H : Heap} {locs : List Loc} {ls : Array Slot} {N : Nat} {w wd wi wo wh wm wp wb wc wl : Nat}
noncomputable def b_Mo_alike_3 (x1 : Int32) (x2 : Int32) (x3 : Int32) (wdf : Nat → Int32)  (kh3 : Int32 → Option (Int32)) (x4 : Int32) : Option (Int32) :=
  (if x3 ≤ x4 then (some x4 : Option (Int32)) else as_ (vp_in (x1 + x4) 16000) (as_ (vp_in (x2 + x4) 16000) ((if (wdf (x1 + x4).toNatClampNeg) = (wdf (x2 + x4).toNatClampNeg) then (kh3 (x4 + 1)) else (some x4 : Option (Int32))))))
set_option maxHeartbeats 4000000 in
set_option maxRecDepth 100000 in
theorem k_Mo_alike_3 {r_z : Int32} (C : Fx p s m args meth c cd_Mo_alike 5 R_Mo lw_g (some .int)) (hK : va_K (dC, dI) vwCl [(cB, .byte), (cI, .int), (cJ, .long)] s) (hA : ∀ q, s.heap.size ≤ q → A q) (x1 : Int32) (x2 : Int32) (x3 : Int32) (win : Int32) (won : Int32) (whn : Int32) (wpl : Int32) (wdn : Int32) (wfo : Int32) (wmn : Int32) (wpn : Int32) (wbn : Int32) (wcn : Int32) (wat : Int32) (wnu : Int32) (wdf : Nat → Int32)  : ∀ (n : Nat) (x4 : Int32), loop1 (b_Mo_alike_3 x1 x2 x3 wdf ) n x4 = some r_z → ∀ (H : Heap) (locs : List Loc), va_P (dC, dI) vwCl (wd_Mo_alike w wd wi wo wh wm wp wb wc wl cB cI cJ win won whn wpl wdn wfo wmn wpn wbn wcn wat wnu wdf) H → va_D A (wd_Mo_alike w wd wi wo wh wm wp wb wc wl cB cI cJ win won whn wpl wdn wfo wmn wpn wbn wcn wat wnu wdf) → va_S A s.heap H locs → ∀ (ls : Array Slot), lv_has ls 5 [(0, .ref w), (1, .int x1), (2, .int x2), (3, .int x3), (4, .int x4)] → W p l e rm_Mo_alike s m args below meth c H locs 0 0 (MQ below (sQi (dC, dI) vwCl [(cB, .byte), (cI, .int), (cJ, .long)] A r_z (wd_Mo_alike w wd wi wo wh wm wp wb wc wl cB cI cJ win won whn wpl wdn wfo wmn wpn wbn wcn wat wnu wdf)) args s 0 0 A) (F0 m 3 ls []) := by
  obtain ⟨hx, hb, hml, hown, hts, hr, hlocks, hZ⟩ := id C
  intro n
  induction n with
  | zero => intro x4 hf; cases hf
  | succ n ih3 =>
    intro x4 hf H locs hP hD hS ls hl
    have hf : b_Mo_alike_3 x1 x2 x3 wdf  (loop1 (b_Mo_alike_3 x1 x2 x3 wdf ) n) x4 = some r_z := hf
    generalize loop1 (b_Mo_alike_3 x1 x2 x3 wdf ) n = kh3 at hf ih3
    unfold b_Mo_alike_3 at hf
    refine lv_iload hx hb d_Mo_alike_3 (lv_at hl 4 rfl) ?_
    refine lv_iload_n hx hb d_Mo_alike_5 rfl (lv_at hl 3 rfl) ?_
    refine lv_icmp_ge (tgt := 36) hx hb d_Mo_alike_6 (by decide) (fun c_6 => ?_) (fun c_6 => ?_)
    · have hf := br_pos c_6 hf
      refine lv_iload hx hb d_Mo_alike_36 (lv_at hl 4 rfl) ?_
      cases hf
      exact s_iret hx hb hr hlocks hP hK hD hS d_Mo_alike_38
    · have hf := br_neg c_6 hf
      refine lv_aload_n hx hb d_Mo_alike_9 rfl (lv_at hl 0 rfl) ?_
      refine va_get (D := (dC, dI)) (ci := 7) (v := .ref wd) (C := R_Mo) (T := T_Mo) (N := 21) hx hb hts w_359 hown hK hP 0 rfl rfl 7 (by decide) (hts _ w_371) (fun _ h9 => h9) rfl d_Mo_alike_10 ?_
      refine lv_iload_n hx hb d_Mo_alike_13 rfl (lv_at hl 1 rfl) ?_
      refine lv_iload hx hb d_Mo_alike_14 (lv_at hl 4 rfl) ?_
      refine lv_iadd hx hb d_Mo_alike_16 ?_
      obtain ⟨h_in, hf⟩ := as_some hf
      refine va_iald hx hb hK hP 1 1 rfl rfl h_in d_Mo_alike_17 ?_
      refine lv_aload_n hx hb d_Mo_alike_18 rfl (lv_at hl 0 rfl) ?_
      refine va_get (D := (dC, dI)) (ci := 7) (v := .ref wd) (C := R_Mo) (T := T_Mo) (N := 21) hx hb hts w_359 hown hK hP 0 rfl rfl 7 (by decide) (hts _ w_371) (fun _ h9 => h9) rfl d_Mo_alike_19 ?_
      refine lv_iload_n hx hb d_Mo_alike_22 rfl (lv_at hl 2 rfl) ?_
      refine lv_iload hx hb d_Mo_alike_23 (lv_at hl 4 rfl) ?_
      refine lv_iadd hx hb d_Mo_alike_25 ?_
      obtain ⟨h_in, hf⟩ := as_some hf
      refine va_iald hx hb hK hP 1 1 rfl rfl h_in d_Mo_alike_26 ?_
      refine lv_icmp_ne (tgt := 36) hx hb d_Mo_alike_27 (by decide) (fun c_27 => ?_) (fun c_27 => ?_)
      · have hf := br_neg c_27 hf
        refine lv_iload hx hb d_Mo_alike_36 (lv_at hl 4 rfl) ?_
        cases hf
        exact s_iret hx hb hr hlocks hP hK hD hS d_Mo_alike_38
      · have hf := br_pos c_27 hf
        refine lv_iinc (v := (x4 + 1)) (lv' := [(4, .int (x4 + 1)), (0, .ref w), (1, .int x1), (2, .int x2), (3, .int x3)]) hx hb d_Mo_alike_30 hl (k := 4) rfl (congrArg (fun z => x4 + z) (by decide)) (by decide) rfl (fun ls hl => ?_)
        refine lv_goto (tgt := 3) hx hb d_Mo_alike_33 (by decide) ?_
        exact ih3 (x4 + 1) hf _ _ hP hD hS _ (lv_sub hl [1, 2, 3, 4, 0] rfl)
noncomputable def j_Mo_alike_0 (N : Nat) (x1 : Int32) (x2 : Int32) (x3 : Int32) (wdf : Nat → Int32)  : Option (Int32) :=
  (loop1 (b_Mo_alike_3 x1 x2 x3 wdf ) N (0 : Int32))
set_option maxHeartbeats 4000000 in
set_option maxRecDepth 100000 in
theorem k_Mo_alike_0 {r_z : Int32} (C : Fx p s m args meth c cd_Mo_alike 5 R_Mo lw_g (some .int)) (hK : va_K (dC, dI) vwCl [(cB, .byte), (cI, .int), (cJ, .long)] s) (hA : ∀ q, s.heap.size ≤ q → A q) (x1 : Int32) (x2 : Int32) (x3 : Int32) (win : Int32) (won : Int32) (whn : Int32) (wpl : Int32) (wdn : Int32) (wfo : Int32) (wmn : Int32) (wpn : Int32) (wbn : Int32) (wcn : Int32) (wat : Int32) (wnu : Int32) (wdf : Nat → Int32)  (hf : j_Mo_alike_0 N x1 x2 x3 wdf  = some r_z) (hP : va_P (dC, dI) vwCl (wd_Mo_alike w wd wi wo wh wm wp wb wc wl cB cI cJ win won whn wpl wdn wfo wmn wpn wbn wcn wat wnu wdf) H) (hD : va_D A (wd_Mo_alike w wd wi wo wh wm wp wb wc wl cB cI cJ win won whn wpl wdn wfo wmn wpn wbn wcn wat wnu wdf)) (hS : va_S A s.heap H locs) (hl : lv_has ls 5 [(0, .ref w), (1, .int x1), (2, .int x2), (3, .int x3)]) : W p l e rm_Mo_alike s m args below meth c H locs 0 0 (MQ below (sQi (dC, dI) vwCl [(cB, .byte), (cI, .int), (cJ, .long)] A r_z (wd_Mo_alike w wd wi wo wh wm wp wb wc wl cB cI cJ win won whn wpl wdn wfo wmn wpn wbn wcn wat wnu wdf)) args s 0 0 A) (F0 m 0 ls []) := by
  obtain ⟨hx, hb, hml, hown, hts, hr, hlocks, hZ⟩ := id C
  unfold j_Mo_alike_0 at hf
  refine lv_iconst (v := 0) hx hb d_Mo_alike_0 (by decide) ?_
  refine lv_istore (lv' := [(4, .int (0 : Int32)), (0, .ref w), (1, .int x1), (2, .int x2), (3, .int x3)]) hx hb d_Mo_alike_1 hl (by decide) rfl (fun ls hl => ?_)
  exact k_Mo_alike_3 C hK hA x1 x2 x3 win won whn wpl wdn wfo wmn wpn wbn wcn wat wnu wdf  N (0 : Int32) hf _ _ hP hD hS _ (lv_sub hl [1, 2, 3, 4, 0] rfl)
end
noncomputable abbrev f_Mo_alike (N : Nat) (x1 : Int32) (x2 : Int32) (x3 : Int32) (wdf : Nat → Int32) : Option (Int32) := j_Mo_alike_0 N x1 x2 x3 wdf
set_option maxRecDepth 100000 in
theorem c_Mo_alike {N : Nat} (l : Launch) (dC : Nat → ClassId) (dI : Nat → Nat → Nat) (cB cI cJ : ClassId) (w wd wi wo wh wm wp wb wc wl : Nat) (win : Int32) (won : Int32) (whn : Int32) (wpl : Int32) (wdn : Int32) (wfo : Int32) (wmn : Int32) (wpn : Int32) (wbn : Int32) (wcn : Int32) (wat : Int32) (wnu : Int32) (wdf : Nat → Int32) (x1 : Int32) (x2 : Int32) (x3 : Int32) {r_z : Int32} (hf : f_Mo_alike N x1 x2 x3 wdf = some r_z) : MetI l y_Mo_alike ws_Mo_alike rm_Mo_alike (dC, dI) vwCl [(cB, .byte), (cI, .int), (cJ, .long)] [.ref w, .int x1, .int x2, .int x3] (wd_Mo_alike w wd wi wo wh wm wp wb wc wl cB cI cJ win won whn wpl wdn wfo wmn wpn wbn wcn wat wnu wdf) r_z (wd_Mo_alike w wd wi wo wh wm wp wb wc wl cB cI cJ win won whn wpl wdn wfo wmn wpn wbn wcn wat wnu wdf) 0 0 :=
  s_ofi (bytes := cd_Mo_alike) (maxL := 5) (ret := (some .int)) (by decide) rfl (Nat.le_of_ble_eq_true rfl) (fun p e s m below meth c A ls C hK hA hP hD hS hl => k_Mo_alike_0 C hK hA x1 x2 x3 win won whn wpl wdn wfo wmn wpn wbn wcn wat wnu wdf hf hP hD hS (lv_sub hl [0, 1, 2, 3] rfl))

abbrev wd_Mo_append (w wi wd wo wh wm wp wb wc wl : Nat) (cB cI cJ : ClassId) (win : Int32) (won : Int32) (whn : Int32) (wpl : Int32) (wdn : Int32) (wfo : Int32) (wmn : Int32) (wpn : Int32) (wbn : Int32) (wcn : Int32) (wat : Int32) (wnu : Int32) (wif : Nat → Int32) (wdf : Nat → Int32) : va_W := [(w, .inr (7, [.ref wi, .ref wo, .ref wh, .int win, .int won, .int whn, .int wpl, .ref wd, .int wdn, .int wfo, .ref wm, .int wmn, .ref wp, .int wpn, .ref wb, .int wbn, .ref wc, .int wcn, .ref wl, .int wat, .int wnu])), (wi, .inl (cI, 8000, .inl wif)), (wd, .inl (cI, 16000, .inl wdf))]
abbrev rm_Mo_append : Room := { frames := 0, cells := 0, slots := 0, locals := 0 }
section
variable {p : Program} {l : Launch} {e : Env} {s : State} {m : MethodId} {args : Array Value} {below : List Frame} {meth : Method} {c : Code} {dC : Nat → ClassId} {dI : Nat → Nat → Nat} {A : Nat → Prop} {cB cI cJ : ClassId} {H : Heap} {locs : List Loc} {ls : Array Slot} {N : Nat} {w wi wd wo wh wm wp wb wc wl : Nat}
noncomputable def b_Mo_append_2 (x2 : Int32) (wif : Nat → Int32)  (kh2 : Int32 → Int32 → (Nat → Int32) → Option (Int32 × (Nat → Int32))) (x3 : Int32) (wdn : Int32) (wdf : Nat → Int32) : Option (Int32 × (Nat → Int32)) :=
  (if x2 ≤ x3 then (some (wdn, wdf) : Option (Int32 × (Nat → Int32))) else as_ (vp_in x3 8000) (as_ (vp_in wdn 16000) ((kh2 (x3 + 1) (wdn + (1 : Int32)) (upd wdf wdn.toNatClampNeg (wif x3.toNatClampNeg))))))
set_option maxHeartbeats 4000000 in
set_option maxRecDepth 100000 in
theorem k_Mo_append_2 {wdn_z : Int32} {wdf_z : Nat → Int32} (C : Fx p s m args meth c cd_Mo_append 4 R_Mo lw_g none) (hK : va_K (dC, dI) vwCl [(cB, .byte), (cI, .int), (cJ, .long)] s) (hA : ∀ q, s.heap.size ≤ q → A q) (x2 : Int32) (win : Int32) (won : Int32) (whn : Int32) (wpl : Int32) (wfo : Int32) (wmn : Int32) (wpn : Int32) (wbn : Int32) (wcn : Int32) (wat : Int32) (wnu : Int32) (wif : Nat → Int32)  : ∀ (n : Nat) (x3 : Int32) (wdn : Int32) (wdf : Nat → Int32), loop3 (b_Mo_append_2 x2 wif ) n x3 wdn wdf = some (wdn_z, wdf_z) → ∀ (H : Heap) (locs : List Loc), va_P (dC, dI) vwCl (wd_Mo_append w wi wd wo wh wm wp wb wc wl cB cI cJ win won whn wpl wdn wfo wmn wpn wbn wcn wat wnu wif wdf) H → va_D A (wd_Mo_append w wi wd wo wh wm wp wb wc wl cB cI cJ win won whn wpl wdn wfo wmn wpn wbn wcn wat wnu wif wdf) → va_S A s.heap H locs → ∀ (ls : Array Slot), lv_has ls 4 [(0, .ref w), (2, .int x2), (3, .int x3)] → W p l e rm_Mo_append s m args below meth c H locs 0 0 (MQ below (sQv (dC, dI) vwCl [(cB, .byte), (cI, .int), (cJ, .long)] A (wd_Mo_append w wi wd wo wh wm wp wb wc wl cB cI cJ win won whn wpl wdn_z wfo wmn wpn wbn wcn wat wnu wif wdf_z)) args s 0 0 A) (F0 m 2 ls []) := by
  obtain ⟨hx, hb, hml, hown, hts, hr, hlocks, hZ⟩ := id C
  intro n
  induction n with
  | zero => intro x3 wdn wdf hf; cases hf
  | succ n ih2 =>
    intro x3 wdn wdf hf H locs hP hD hS ls hl
    have hf : b_Mo_append_2 x2 wif  (loop3 (b_Mo_append_2 x2 wif ) n) x3 wdn wdf = some (wdn_z, wdf_z) := hf
    generalize loop3 (b_Mo_append_2 x2 wif ) n = kh2 at hf ih2
    unfold b_Mo_append_2 at hf
    refine lv_iload_n hx hb d_Mo_append_2 rfl (lv_at hl 2 rfl) ?_
    refine lv_iload_n hx hb d_Mo_append_3 rfl (lv_at hl 1 rfl) ?_
    refine lv_icmp_ge (tgt := 38) hx hb d_Mo_append_4 (by decide) (fun c_4 => ?_) (fun c_4 => ?_)
    · have hf := br_pos c_4 hf
      cases hf
      exact s_vret hx hb hr hlocks hP hK hD hS d_Mo_append_38
    · have hf := br_neg c_4 hf
      refine lv_aload_n hx hb d_Mo_append_7 rfl (lv_at hl 0 rfl) ?_
      refine va_get (D := (dC, dI)) (ci := 7) (v := .ref wd) (C := R_Mo) (T := T_Mo) (N := 21) hx hb hts w_359 hown hK hP 0 rfl rfl 7 (by decide) (hts _ w_371) (fun _ h9 => h9) rfl d_Mo_append_8 ?_
      refine lv_aload_n hx hb d_Mo_append_11 rfl (lv_at hl 0 rfl) ?_
      refine va_get (D := (dC, dI)) (ci := 7) (v := .int wdn) (C := R_Mo) (T := T_Mo) (N := 21) hx hb hts w_359 hown hK hP 0 rfl rfl 8 (by decide) (hts _ w_372) (fun _ h9 => h9) rfl d_Mo_append_12 ?_
      refine lv_aload_n hx hb d_Mo_append_15 rfl (lv_at hl 0 rfl) ?_
      refine va_get (D := (dC, dI)) (ci := 7) (v := .ref wi) (C := R_Mo) (T := T_Mo) (N := 21) hx hb hts w_359 hown hK hP 0 rfl rfl 0 (by decide) (hts _ w_369) (fun _ h9 => h9) rfl d_Mo_append_16 ?_
      refine lv_iload_n hx hb d_Mo_append_19 rfl (lv_at hl 2 rfl) ?_
      obtain ⟨h_in, hf⟩ := as_some hf
      refine va_iald hx hb hK hP 1 1 rfl rfl h_in d_Mo_append_20 ?_
      obtain ⟨h_in, hf⟩ := as_some hf
      refine va_iast hx hb hK hP hD hS 2 1 rfl rfl h_in d_Mo_append_21 (fun H locs hP hD hS => ?_)
      have hP : va_P (dC, dI) vwCl (wd_Mo_append w wi wd wo wh wm wp wb wc wl cB cI cJ win won whn wpl wdn wfo wmn wpn wbn wcn wat wnu wif (upd wdf wdn.toNatClampNeg (wif x3.toNatClampNeg))) H := hP
      have hD : va_D A (wd_Mo_append w wi wd wo wh wm wp wb wc wl cB cI cJ win won whn wpl wdn wfo wmn wpn wbn wcn wat wnu wif (upd wdf wdn.toNatClampNeg (wif x3.toNatClampNeg))) := hD
      refine lv_aload_n hx hb d_Mo_append_22 rfl (lv_at hl 0 rfl) ?_
      refine lv_dup hx hb d_Mo_append_23 rfl ?_
      refine va_get (D := (dC, dI)) (ci := 7) (v := .int wdn) (C := R_Mo) (T := T_Mo) (N := 21) hx hb hts w_359 hown hK hP 0 rfl rfl 8 (by decide) (hts _ w_372) (fun _ h9 => h9) rfl d_Mo_append_24 ?_
      refine lv_iconst (v := 1) hx hb d_Mo_append_27 (by decide) ?_
      refine lv_iadd hx hb d_Mo_append_28 ?_
      refine va_put (D := (dC, dI)) (ci := 7) (v := .int (wdn + (1 : Int32))) (ty := .int) (C := R_Mo) (T := T_Mo) (N := 21) hx hb hts w_359 ty_Mo ty_Mo_ok nm_Mo hown hK hP hD hS 0 rfl rfl 8 (by decide) (hts _ w_372) (fun _ h9 => h9) rfl (by decide +kernel) rfl rfl (Nat.le_of_ble_eq_true rfl) d_Mo_append_29 (fun H locs hP hD hS => ?_)
      have hP : va_P (dC, dI) vwCl (wd_Mo_append w wi wd wo wh wm wp wb wc wl cB cI cJ win won whn wpl (wdn + (1 : Int32)) wfo wmn wpn wbn wcn wat wnu wif (upd wdf wdn.toNatClampNeg (wif x3.toNatClampNeg))) H := hP
      have hD : va_D A (wd_Mo_append w wi wd wo wh wm wp wb wc wl cB cI cJ win won whn wpl (wdn + (1 : Int32)) wfo wmn wpn wbn wcn wat wnu wif (upd wdf wdn.toNatClampNeg (wif x3.toNatClampNeg))) := hD
      refine lv_iinc (v := (x3 + 1)) (lv' := [(3, .int (x3 + 1)), (0, .ref w), (2, .int x2)]) hx hb d_Mo_append_32 hl (k := 2) rfl (congrArg (fun z => x3 + z) (by decide)) (by decide) rfl (fun ls hl => ?_)
      refine lv_goto (tgt := 2) hx hb d_Mo_append_35 (by decide) ?_
      exact ih2 (x3 + 1) (wdn + (1 : Int32)) (upd wdf wdn.toNatClampNeg (wif x3.toNatClampNeg)) hf _ _ hP hD hS _ (lv_sub hl [1, 2, 0] rfl)
noncomputable def j_Mo_append_0 (N : Nat) (x1 : Int32) (x2 : Int32) (wdn : Int32) (wif : Nat → Int32) (wdf : Nat → Int32)  : Option (Int32 × (Nat → Int32)) :=
  (loop3 (b_Mo_append_2 x2 wif ) N x1 wdn wdf)
set_option maxHeartbeats 4000000 in
set_option maxRecDepth 100000 in
theorem k_Mo_append_0 {wdn_z : Int32} {wdf_z : Nat → Int32} (C : Fx p s m args meth c cd_Mo_append 4 R_Mo lw_g none) (hK : va_K (dC, dI) vwCl [(cB, .byte), (cI, .int), (cJ, .long)] s) (hA : ∀ q, s.heap.size ≤ q → A q) (x1 : Int32) (x2 : Int32) (win : Int32) (won : Int32) (whn : Int32) (wpl : Int32) (wdn : Int32) (wfo : Int32) (wmn : Int32) (wpn : Int32) (wbn : Int32) (wcn : Int32) (wat : Int32) (wnu : Int32) (wif : Nat → Int32) (wdf : Nat → Int32)  (hf : j_Mo_append_0 N x1 x2 wdn wif wdf  = some (wdn_z, wdf_z)) (hP : va_P (dC, dI) vwCl (wd_Mo_append w wi wd wo wh wm wp wb wc wl cB cI cJ win won whn wpl wdn wfo wmn wpn wbn wcn wat wnu wif wdf) H) (hD : va_D A (wd_Mo_append w wi wd wo wh wm wp wb wc wl cB cI cJ win won whn wpl wdn wfo wmn wpn wbn wcn wat wnu wif wdf)) (hS : va_S A s.heap H locs) (hl : lv_has ls 4 [(0, .ref w), (1, .int x1), (2, .int x2)]) : W p l e rm_Mo_append s m args below meth c H locs 0 0 (MQ below (sQv (dC, dI) vwCl [(cB, .byte), (cI, .int), (cJ, .long)] A (wd_Mo_append w wi wd wo wh wm wp wb wc wl cB cI cJ win won whn wpl wdn_z wfo wmn wpn wbn wcn wat wnu wif wdf_z)) args s 0 0 A) (F0 m 0 ls []) := by
  obtain ⟨hx, hb, hml, hown, hts, hr, hlocks, hZ⟩ := id C
  unfold j_Mo_append_0 at hf
  refine lv_iload_n hx hb d_Mo_append_0 rfl (lv_at hl 1 rfl) ?_
  refine lv_istore_n (lv' := [(3, .int x1), (0, .ref w), (1, .int x1), (2, .int x2)]) hx hb d_Mo_append_1 rfl hl (by decide) rfl (fun ls hl => ?_)
  exact k_Mo_append_2 C hK hA x2 win won whn wpl wfo wmn wpn wbn wcn wat wnu wif  N x1 wdn wdf hf _ _ hP hD hS _ (lv_sub hl [1, 3, 0] rfl)
end
noncomputable abbrev f_Mo_append (N : Nat) (x1 : Int32) (x2 : Int32) (wdn : Int32) (wif : Nat → Int32) (wdf : Nat → Int32) : Option (Int32 × (Nat → Int32)) := j_Mo_append_0 N x1 x2 wdn wif wdf
set_option maxRecDepth 100000 in
theorem c_Mo_append {N : Nat} (l : Launch) (dC : Nat → ClassId) (dI : Nat → Nat → Nat) (cB cI cJ : ClassId) (w wi wd wo wh wm wp wb wc wl : Nat) (win : Int32) (won : Int32) (whn : Int32) (wpl : Int32) (wdn : Int32) (wfo : Int32) (wmn : Int32) (wpn : Int32) (wbn : Int32) (wcn : Int32) (wat : Int32) (wnu : Int32) (wif : Nat → Int32) (wdf : Nat → Int32) (x1 : Int32) (x2 : Int32) {wdn_z : Int32} {wdf_z : Nat → Int32} (hf : f_Mo_append N x1 x2 wdn wif wdf = some (wdn_z, wdf_z)) : MetV l y_Mo_append ws_Mo_append rm_Mo_append (dC, dI) vwCl [(cB, .byte), (cI, .int), (cJ, .long)] [.ref w, .int x1, .int x2] (wd_Mo_append w wi wd wo wh wm wp wb wc wl cB cI cJ win won whn wpl wdn wfo wmn wpn wbn wcn wat wnu wif wdf)  (wd_Mo_append w wi wd wo wh wm wp wb wc wl cB cI cJ win won whn wpl wdn_z wfo wmn wpn wbn wcn wat wnu wif wdf_z) 0 0 :=
  s_ofv (bytes := cd_Mo_append) (maxL := 4) (ret := none) (by decide) rfl (Nat.le_of_ble_eq_true rfl) (fun p e s m below meth c A ls C hK hA hP hD hS hl => k_Mo_append_0 C hK hA x1 x2 win won whn wpl wdn wfo wmn wpn wbn wcn wat wnu wif wdf hf hP hD hS (lv_sub hl [0, 1, 2] rfl))
