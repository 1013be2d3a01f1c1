abbrev wd_Mo_taken (w wd wi wo wh wm wp wb wc wl : Nat) (cB cI cJ : ClassId) (win : Int32) (won : Int32) (whn : Int32) (wpl : Int32) (wdn : Int32) (wfo : Int32) (wmn : Int32) (wpn : Int32) (wbn : Int32) (wcn : Int32) (wat : Int32) (wnu : Int32) (wdf : Nat → Int32) : va_W := [(w, .inr (7, [.ref wi, .ref wo, .ref wh, .int win, .int won, .int whn, .int wpl, .ref wd, .int wdn, .int wfo, .ref wm, .int wmn, .ref wp, .int wpn, .ref wb, .int wbn, .ref wc, .int wcn, .ref wl, .int wat, .int wnu])), (wd, .inl (cI, 16000, .inl wdf))]
abbrev rm_Mo_taken : Room := { frames := 2, cells := 0, slots := 0, locals := 51 }
section
variable {p : Program} {l : Launch} {e : Env} {s : State} {m : MethodId} {args : Array Value} {below : List Frame} {meth : Method} {c : Code} {dC : Nat → ClassId} {dI : Nat → Nat → Nat} {A : Nat → Prop} {cB cI cJ : ClassId} {H : Heap} {locs : List Loc} {ls : Array Slot} {N : Nat} {w wd wi wo wh wm wp wb wc wl : Nat}
noncomputable def j_Mo_taken_37 (N : Nat) (x1 : Int32) (t0 : Int32) (wdn : Int32) (wfo : Int32) (wdf : Nat → Int32)  : Option (Int32 × Int32) :=
  bd2 (f_Mo_match N x1 (2 : Int32) wdn wfo wdf) (fun r41 wfo_41 => (if t0 ≤ r41 then (some (r41, wfo_41) : Option (Int32 × Int32)) else (some ((0 : Int32), wfo_41) : Option (Int32 × Int32))))
set_option maxHeartbeats 4000000 in
set_option maxRecDepth 100000 in
theorem k_Mo_taken_37 {r_z : Int32} {wfo_z : Int32} (C : Fx p s m args meth c cd_Mo_taken 5 R_Mo lw_g (some .int)) (hK : va_K (dC, dI) vwCl [(cB, .byte), (cI, .int), (cJ, .long)] s) (hA : ∀ q, s.heap.size ≤ q → A q) (x1 : Int32) (t0 : Int32) (win : Int32) (won : Int32) (whn : Int32) (wpl : Int32) (wdn : Int32) (wfo : Int32) (wmn : Int32) (wpn : Int32) (wbn : Int32) (wcn : Int32) (wat : Int32) (wnu : Int32) (wdf : Nat → Int32)  (hf : j_Mo_taken_37 N x1 t0 wdn wfo wdf  = some (r_z, wfo_z)) (hP : va_P (dC, dI) vwCl (wd_Mo_taken w wd wi wo wh wm wp wb wc wl cB cI cJ win won whn wpl wdn wfo wmn wpn wbn wcn wat wnu wdf) H) (hD : va_D A (wd_Mo_taken w wd wi wo wh wm wp wb wc wl cB cI cJ win won whn wpl wdn wfo wmn wpn wbn wcn wat wnu wdf)) (hS : va_S A s.heap H locs) (hl : lv_has ls 5 [(0, .ref w), (1, .int x1)]) : W p l e rm_Mo_taken s m args below meth c H locs 0 0 (MQ below (sQi (dC, dI) vwCl [(cB, .byte), (cI, .int), (cJ, .long)] A r_z (wd_Mo_taken w wd wi wo wh wm wp wb wc wl cB cI cJ win won whn wpl wdn wfo_z wmn wpn wbn wcn wat wnu wdf)) args s 0 0 A) (F0 m 37 ls [.int t0]) := by
  obtain ⟨hx, hb, hml, hown, hts, hr, hlocks, hZ⟩ := id C
  unfold j_Mo_taken_37 at hf
  refine lv_istore_n (lv' := [(3, .int t0), (0, .ref w), (1, .int x1)]) hx hb d_Mo_taken_37 rfl hl (by decide) rfl (fun ls hl => ?_)
  refine lv_aload_n hx hb d_Mo_taken_38 rfl (lv_at hl 1 rfl) ?_
  refine lv_iload_n hx hb d_Mo_taken_39 rfl (lv_at hl 2 rfl) ?_
  refine lv_iconst (v := 2) hx hb d_Mo_taken_40 (by decide) ?_
  obtain ⟨r41, wfo_41, hc41, hf⟩ := bd2_some hf
  refine s_Vi (As := [.int x1, .int (2 : Int32)]) (rest := []) (wr := []) (ws' := wd_Mo_taken w wd wi wo wh wm wp wb wc wl cB cI cJ win won whn wpl wdn wfo_41 wmn wpn wbn wcn wat wnu wdf) C.call (c_Mo_match l dC dI cB cI cJ w wd wi wo wh wm wp wb wc wl  win won whn wpl wdn wfo wmn wpn wbn wcn wat wnu wdf x1 (2 : Int32) hc41) (cwV 2 hts (gd_V w_381 w_382 w_383 w_357 w_384) rfl rfl rfl ⟨rfl, hd_Mo_match⟩ ⟨Nat.le_of_ble_eq_true rfl, Nat.le_of_ble_eq_true rfl⟩) rfl hl.1 rfl (Nat.le_of_ble_eq_true rfl) d_Mo_taken_41 ⟨Nat.le_of_ble_eq_true rfl, Nat.le_of_ble_eq_true rfl⟩ hZ hK hP hD hS hA 7 0 rfl rfl [0, 1] [] [0, 1] rfl rfl rfl rfl (by decide) rfl rfl (fun H locs hP hD hS => ?_)
  refine lv_istore (lv' := [(4, .int r41), (3, .int t0), (0, .ref w), (1, .int x1)]) hx hb d_Mo_taken_44 hl (by decide) rfl (fun ls hl => ?_)
  refine lv_iload_n hx hb d_Mo_taken_46 rfl (lv_at hl 1 rfl) ?_
  refine lv_iload hx hb d_Mo_taken_47 (lv_at hl 0 rfl) ?_
  refine lv_icmp_le (tgt := 56) hx hb d_Mo_taken_49 (by decide) (fun c_49 => ?_) (fun c_49 => ?_)
  · have hf := br_pos c_49 hf
    refine lv_iload hx hb d_Mo_taken_56 (lv_at hl 0 rfl) ?_
    cases hf
    exact s_iret hx hb hr hlocks hP hK hD hS d_Mo_taken_58
  · have hf := br_neg c_49 hf
    refine lv_iconst (v := 0) hx hb d_Mo_taken_52 (by decide) ?_
    refine lv_goto (tgt := 58) hx hb d_Mo_taken_53 (by decide) ?_
    cases hf
    exact s_iret hx hb hr hlocks hP hK hD hS d_Mo_taken_58
noncomputable def j_Mo_taken_0 (N : Nat) (x1 : Int32) (x2 : Int32) (wdn : Int32) (wfo : Int32) (wdf : Nat → Int32)  : Option (Int32 × Int32) :=
  (if (3 : Int32) ≤ x2 then (if (wdn - (12 : Int32)) < (x1 + (1 : Int32)) then (j_Mo_taken_37 N x1 (0 : Int32) wdn wfo wdf ) else bd2 (f_Mo_match N (x1 + (1 : Int32)) (2 : Int32) wdn wfo wdf) (fun r30 wfo_30 => (j_Mo_taken_37 N x1 r30 wdn wfo_30 wdf ))) else bd2 (f_Mo_match N x1 x2 wdn wfo wdf) (fun r8 wfo_8 => (some (r8, wfo_8) : Option (Int32 × Int32))))
set_option maxHeartbeats 4000000 in
set_option maxRecDepth 100000 in
theorem k_Mo_taken_0 {r_z : Int32} {wfo_z : Int32} (C : Fx p s m args meth c cd_Mo_taken 5 R_Mo lw_g (some .int)) (hK : va_K (dC, dI) vwCl [(cB, .byte), (cI, .int), (cJ, .long)] s) (hA : ∀ q, s.heap.size ≤ q → A q) (x1 : Int32) (x2 : Int32) (win : Int32) (won : Int32) (whn : Int32) (wpl : Int32) (wdn : Int32) (wfo : Int32) (wmn : Int32) (wpn : Int32) (wbn : Int32) (wcn : Int32) (wat : Int32) (wnu : Int32) (wdf : Nat → Int32)  (hf : j_Mo_taken_0 N x1 x2 wdn wfo wdf  = some (r_z, wfo_z)) (hP : va_P (dC, dI) vwCl (wd_Mo_taken w wd wi wo wh wm wp wb wc wl cB cI cJ win won whn wpl wdn wfo wmn wpn wbn wcn wat wnu wdf) H) (hD : va_D A (wd_Mo_taken w wd wi wo wh wm wp wb wc wl cB cI cJ win won whn wpl wdn wfo wmn wpn wbn wcn wat wnu wdf)) (hS : va_S A s.heap H locs) (hl : lv_has ls 5 [(0, .ref w), (1, .int x1), (2, .int x2)]) : W p l e rm_Mo_taken s m args below meth c H locs 0 0 (MQ below (sQi (dC, dI) vwCl [(cB, .byte), (cI, .int), (cJ, .long)] A r_z (wd_Mo_taken w wd wi wo wh wm wp wb wc wl cB cI cJ win won whn wpl wdn wfo_z wmn wpn wbn wcn wat wnu wdf)) args s 0 0 A) (F0 m 0 ls []) := by
  obtain ⟨hx, hb, hml, hown, hts, hr, hlocks, hZ⟩ := id C
  unfold j_Mo_taken_0 at hf
  refine lv_iload_n hx hb d_Mo_taken_0 rfl (lv_at hl 2 rfl) ?_
  refine lv_iconst (v := 3) hx hb d_Mo_taken_1 (by decide) ?_
  refine lv_icmp_ge (tgt := 12) hx hb d_Mo_taken_2 (by decide) (fun c_2 => ?_) (fun c_2 => ?_)
  · have hf := br_pos c_2 hf
    refine lv_iload_n hx hb d_Mo_taken_12 rfl (lv_at hl 1 rfl) ?_
    refine lv_iconst (v := 1) hx hb d_Mo_taken_13 (by decide) ?_
    refine lv_iadd hx hb d_Mo_taken_14 ?_
    refine lv_aload_n hx hb d_Mo_taken_15 rfl (lv_at hl 0 rfl) ?_
    refine va_get (D := (dC, dI)) (ci := 7) (v := .int wdn) (C := R_Mo) (T := T_Mo) (N := 21) hx hb hts w_351 hown hK hP 0 rfl rfl 8 (by decide) (hts _ w_364) (fun _ h9 => h9) rfl d_Mo_taken_16 ?_
    refine lv_bipush (v := 12) hx hb d_Mo_taken_19 (by decide) ?_
    refine lv_isub hx hb d_Mo_taken_21 ?_
    refine lv_icmp_gt (tgt := 36) hx hb d_Mo_taken_22 (by decide) (fun c_22 => ?_) (fun c_22 => ?_)
    · have hf := br_pos c_22 hf
      refine lv_iconst (v := 0) hx hb d_Mo_taken_36 (by decide) ?_
      exact k_Mo_taken_37 C hK hA x1 (0 : Int32) win won whn wpl wdn wfo wmn wpn wbn wcn wat wnu wdf  hf hP hD hS (lv_sub hl [0, 1] rfl)
    · have hf := br_neg c_22 hf
      refine lv_aload_n hx hb d_Mo_taken_25 rfl (lv_at hl 0 rfl) ?_
      refine lv_iload_n hx hb d_Mo_taken_26 rfl (lv_at hl 1 rfl) ?_
      refine lv_iconst (v := 1) hx hb d_Mo_taken_27 (by decide) ?_
      refine lv_iadd hx hb d_Mo_taken_28 ?_
      refine lv_iconst (v := 2) hx hb d_Mo_taken_29 (by decide) ?_
      obtain ⟨r30, wfo_30, hc30, hf⟩ := bd2_some hf
      refine s_Vi (As := [.int (x1 + (1 : Int32)), .int (2 : Int32)]) (rest := []) (wr := []) (ws' := wd_Mo_taken w wd wi wo wh wm wp wb wc wl cB cI cJ win won whn wpl wdn wfo_30 wmn wpn wbn wcn wat wnu wdf) C.call (c_Mo_match l dC dI cB cI cJ w wd wi wo wh wm wp wb wc wl  win won whn wpl wdn wfo wmn wpn wbn wcn wat wnu wdf (x1 + (1 : Int32)) (2 : Int32) hc30) (cwV 2 hts (gd_V w_381 w_382 w_383 w_357 w_384) rfl rfl rfl ⟨rfl, hd_Mo_match⟩ ⟨Nat.le_of_ble_eq_true rfl, Nat.le_of_ble_eq_true rfl⟩) rfl hl.1 rfl (Nat.le_of_ble_eq_true rfl) d_Mo_taken_30 ⟨Nat.le_of_ble_eq_true rfl, Nat.le_of_ble_eq_true rfl⟩ hZ hK hP hD hS hA 7 0 rfl rfl [0, 1] [] [0, 1] rfl rfl rfl rfl (by decide) rfl rfl (fun H locs hP hD hS => ?_)
      refine lv_goto (tgt := 37) hx hb d_Mo_taken_33 (by decide) ?_
      exact k_Mo_taken_37 C hK hA x1 r30 win won whn wpl wdn wfo_30 wmn wpn wbn wcn wat wnu wdf  hf hP hD hS (lv_sub hl [0, 1] rfl)
  · have hf := br_neg c_2 hf
    refine lv_aload_n hx hb d_Mo_taken_5 rfl (lv_at hl 0 rfl) ?_
    refine lv_iload_n hx hb d_Mo_taken_6 rfl (lv_at hl 1 rfl) ?_
    refine lv_iload_n hx hb d_Mo_taken_7 rfl (lv_at hl 2 rfl) ?_
    obtain ⟨r8, wfo_8, hc8, hf⟩ := bd2_some hf
    refine s_Vi (As := [.int x1, .int x2]) (rest := []) (wr := []) (ws' := wd_Mo_taken w wd wi wo wh wm wp wb wc wl cB cI cJ win won whn wpl wdn wfo_8 wmn wpn wbn wcn wat wnu wdf) C.call (c_Mo_match l dC dI cB cI cJ w wd wi wo wh wm wp wb wc wl  win won whn wpl wdn wfo wmn wpn wbn wcn wat wnu wdf x1 x2 hc8) (cwV 2 hts (gd_V w_381 w_382 w_383 w_357 w_384) rfl rfl rfl ⟨rfl, hd_Mo_match⟩ ⟨Nat.le_of_ble_eq_true rfl, Nat.le_of_ble_eq_true rfl⟩) rfl hl.1 rfl (Nat.le_of_ble_eq_true rfl) d_Mo_taken_8 ⟨Nat.le_of_ble_eq_true rfl, Nat.le_of_ble_eq_true rfl⟩ hZ hK hP hD hS hA 7 0 rfl rfl [0, 1] [] [0, 1] rfl rfl rfl rfl (by decide) rfl rfl (fun H locs hP hD hS => ?_)
    cases hf
    exact s_iret hx hb hr hlocks hP hK hD hS d_Mo_taken_11
end
noncomputable abbrev f_Mo_taken (N : Nat) (x1 : Int32) (x2 : Int32) (wdn : Int32) (wfo : Int32) (wdf : Nat → Int32) : Option (Int32 × Int32) := j_Mo_taken_0 N x1 x2 wdn wfo wdf
set_option maxRecDepth 100000 in
theorem c_Mo_taken {N : Nat} (l : Launch) (dC : Nat → ClassId) (dI : Nat → Nat → Nat) (cB cI cJ : ClassId) (w wd wi wo wh wm wp wb wc wl : Nat) (win : Int32) (won : Int32) (whn : Int32) (wpl : Int32) (wdn : Int32) (wfo : Int32) (wmn : Int32) (wpn : Int32) (wbn : Int32) (wcn : Int32) (wat : Int32) (wnu : Int32) (wdf : Nat → Int32) (x1 : Int32) (x2 : Int32) {r_z : Int32} {wfo_z : Int32} (hf : f_Mo_taken N x1 x2 wdn wfo wdf = some (r_z, wfo_z)) : MetI l y_Mo_taken ws_Mo_taken rm_Mo_taken (dC, dI) vwCl [(cB, .byte), (cI, .int), (cJ, .long)] [.ref w, .int x1, .int x2] (wd_Mo_taken w wd wi wo wh wm wp wb wc wl cB cI cJ win won whn wpl wdn wfo wmn wpn wbn wcn wat wnu wdf) r_z (wd_Mo_taken w wd wi wo wh wm wp wb wc wl cB cI cJ win won whn wpl wdn wfo_z wmn wpn wbn wcn wat wnu wdf) 0 0 :=
  s_ofi (bytes := cd_Mo_taken) (maxL := 5) (ret := (some .int)) (by decide) rfl (Nat.le_of_ble_eq_true rfl) (fun p e s m below meth c A ls C hK hA hP hD hS hl => k_Mo_taken_0 C hK hA x1 x2 win won whn wpl wdn wfo wmn wpn wbn wcn wat wnu wdf hf hP hD hS (lv_sub hl [0, 1, 2] rfl))

abbrev wd_Mo_writeBlock (w wd wp wi wo wh wm wb wc wl : Nat) (cB cI cJ : ClassId) (win : Int32) (won : Int32) (whn : Int32) (wpl : Int32) (wdn : Int32) (wfo : Int32) (wmn : Int32) (wpn : Int32) (wbn : Int32) (wcn : Int32) (wat : Int32) (wnu : Int32) (wdf : Nat → Int32) (wpf : Nat → Int32) : va_W := [(w, .inr (7, [.ref wi, .ref wo, .ref wh, .int win, .int won, .int whn, .int wpl, .ref wd, .int wdn, .int wfo, .ref wm, .int wmn, .ref wp, .int wpn, .ref wb, .int wbn, .ref wc, .int wcn, .ref wl, .int wat, .int wnu])), (wd, .inl (cI, 16000, .inl wdf)), (wp, .inl (cI, 9000, .inl wpf))]
abbrev rm_Mo_writeBlock : Room := { frames := 3, cells := 0, slots := 0, locals := 75 }
section
variable {p : Program} {l : Launch} {e : Env} {s : State} {m : MethodId} {args : Array Value} {below : List Frame} {meth : Method} {c : Code} {dC : Nat → ClassId} {dI : Nat → Nat → Nat} {A : Nat → Prop} {cB cI cJ : ClassId} {H : Heap} {locs : List Loc} {ls : Array Slot} {N : Nat} {w wd wp wi wo wh wm wb wc wl : Nat}
noncomputable def b_Mo_writeBlock_10 (N : Nat) (x2 : Int32) (wdn : Int32) (wdf : Nat → Int32)  (kh10 : Int32 → Int32 → Int32 → Int32 → (Nat → Int32) → Option (Int32 × Int32 × (Nat → Int32))) (x3 : Int32) (x4 : Int32) (wfo : Int32) (wpn : Int32) (wpf : Nat → Int32) : Option (Int32 × Int32 × (Nat → Int32)) :=
  (if wdn ≤ x4 then bd2 (f_Mo_sequence N x3 wdn (0 : Int32) (0 : Int32) wpn wdf wpf) (fun wpn_76 wpf_76 => (some (wfo, wpn_76, wpf_76) : Option (Int32 × Int32 × (Nat → Int32)))) else bd2 (f_Mo_taken N x4 x2 wdn wfo wdf) (fun r23 wfo_23 => (if r23 = 0 then (kh10 x3 (x4 + 1) wfo_23 wpn wpf) else bd2 (f_Mo_sequence N x3 x4 r23 (x4 - wfo_23) wpn wdf wpf) (fun wpn_52 wpf_52 => (kh10 (x4 + r23) (x4 + r23) wfo_23 wpn_52 wpf_52)))))
set_option maxHeartbeats 4000000 in
set_option maxRecDepth 100000 in
theorem k_Mo_writeBlock_10 {wfo_z : Int32} {wpn_z : Int32} {wpf_z : Nat → Int32} (C : Fx p s m args meth c cd_Mo_writeBlock 6 R_Mo lw_g none) (hK : va_K (dC, dI) vwCl [(cB, .byte), (cI, .int), (cJ, .long)] s) (hA : ∀ q, s.heap.size ≤ q → A q) (x2 : Int32) (win : Int32) (won : Int32) (whn : Int32) (wpl : Int32) (wdn : Int32) (wmn : Int32) (wbn : Int32) (wcn : Int32) (wat : Int32) (wnu : Int32) (wdf : Nat → Int32)  : ∀ (n : Nat) (x3 : Int32) (x4 : Int32) (wfo : Int32) (wpn : Int32) (wpf : Nat → Int32), loop5 (b_Mo_writeBlock_10 N x2 wdn wdf ) n x3 x4 wfo wpn wpf = some (wfo_z, wpn_z, wpf_z) → ∀ (H : Heap) (locs : List Loc), va_P (dC, dI) vwCl (wd_Mo_writeBlock w wd wp wi wo wh wm wb wc wl cB cI cJ win won whn wpl wdn wfo wmn wpn wbn wcn wat wnu wdf wpf) H → va_D A (wd_Mo_writeBlock w wd wp wi wo wh wm wb wc wl cB cI cJ win won whn wpl wdn wfo wmn wpn wbn wcn wat wnu wdf wpf) → va_S A s.heap H locs → ∀ (ls : Array Slot), lv_has ls 6 [(0, .ref w), (2, .int x2), (3, .int x3), (4, .int x4)] → W p l e rm_Mo_writeBlock s m args below meth c H locs 0 0 (MQ below (sQv (dC, dI) vwCl [(cB, .byte), (cI, .int), (cJ, .long)] A (wd_Mo_writeBlock w wd wp wi wo wh wm wb wc wl cB cI cJ win won whn wpl wdn wfo_z wmn wpn_z wbn wcn wat wnu wdf wpf_z)) args s 0 0 A) (F0 m 10 ls []) := by
  obtain ⟨hx, hb, hml, hown, hts, hr, hlocks, hZ⟩ := id C
  intro n
  induction n with
  | zero => intro x3 x4 wfo wpn wpf hf; cases hf
  | succ n ih10 =>
    intro x3 x4 wfo wpn wpf hf H locs hP hD hS ls hl
    have hf : b_Mo_writeBlock_10 N x2 wdn wdf  (loop5 (b_Mo_writeBlock_10 N x2 wdn wdf ) n) x3 x4 wfo wpn wpf = some (wfo_z, wpn_z, wpf_z) := hf
    generalize loop5 (b_Mo_writeBlock_10 N x2 wdn wdf ) n = kh10 at hf ih10
    unfold b_Mo_writeBlock_10 at hf
    refine lv_iload hx hb d_Mo_writeBlock_10 (lv_at hl 3 rfl) ?_
    refine lv_aload_n hx hb d_Mo_writeBlock_12 rfl (lv_at hl 0 rfl) ?_
    refine va_get (D := (dC, dI)) (ci := 7) (v := .int wdn) (C := R_Mo) (T := T_Mo) (N := 21) hx hb hts w_351 hown hK hP 0 rfl rfl 8 (by decide) (hts _ w_364) (fun _ h9 => h9) rfl d_Mo_writeBlock_13 ?_
    refine lv_icmp_ge (tgt := 68) hx hb d_Mo_writeBlock_16 (by decide) (fun c_16 => ?_) (fun c_16 => ?_)
    · have hf := br_pos c_16 hf
      refine lv_aload_n hx hb d_Mo_writeBlock_68 rfl (lv_at hl 0 rfl) ?_
      refine lv_iload_n hx hb d_Mo_writeBlock_69 rfl (lv_at hl 2 rfl) ?_
      refine lv_aload_n hx hb d_Mo_writeBlock_70 rfl (lv_at hl 0 rfl) ?_
      refine va_get (D := (dC, dI)) (ci := 7) (v := .int wdn) (C := R_Mo) (T := T_Mo) (N := 21) hx hb hts w_351 hown hK hP 0 rfl rfl 8 (by decide) (hts _ w_364) (fun _ h9 => h9) rfl d_Mo_writeBlock_71 ?_
      refine lv_iconst (v := 0) hx hb d_Mo_writeBlock_74 (by decide) ?_
      refine lv_iconst (v := 0) hx hb d_Mo_writeBlock_75 (by decide) ?_
      obtain ⟨wpn_76, wpf_76, hc76, hf⟩ := bd2_some hf
      refine s_Vv (As := [.int x3, .int wdn, .int (0 : Int32), .int (0 : Int32)]) (rest := []) (wr := []) (ws' := wd_Mo_writeBlock w wd wp wi wo wh wm wb wc wl cB cI cJ win won whn wpl wdn wfo wmn wpn_76 wbn wcn wat wnu wdf wpf_76) C.call (c_Mo_sequence l dC dI cB cI cJ w wd wp wi wo wh wm wb wc wl  win won whn wpl wdn wfo wmn wpn wbn wcn wat wnu wdf wpf x3 wdn (0 : Int32) (0 : Int32) hc76) (cwV 4 hts (gd_V w_385 w_386 w_387 w_357 w_388) rfl rfl rfl ⟨rfl, hd_Mo_sequence⟩ ⟨Nat.le_of_ble_eq_true rfl, Nat.le_of_ble_eq_true rfl⟩) rfl hl.1 rfl (Nat.le_of_ble_eq_true rfl) d_Mo_writeBlock_76 ⟨Nat.le_of_ble_eq_true rfl, Nat.le_of_ble_eq_true rfl⟩ hZ hK hP hD hS hA 7 0 rfl rfl [0, 1, 2] [] [0, 1, 2] rfl rfl rfl rfl (by decide) rfl rfl (fun H locs hP hD hS => ?_)
      cases hf
      exact s_vret hx hb hr hlocks hP hK hD hS d_Mo_writeBlock_79
    · have hf := br_neg c_16 hf
      refine lv_aload_n hx hb d_Mo_writeBlock_19 rfl (lv_at hl 0 rfl) ?_
      refine lv_iload hx hb d_Mo_writeBlock_20 (lv_at hl 3 rfl) ?_
      refine lv_iload_n hx hb d_Mo_writeBlock_22 rfl (lv_at hl 1 rfl) ?_
      obtain ⟨r23, wfo_23, hc23, hf⟩ := bd2_some hf
      refine s_Vi (As := [.int x4, .int x2]) (rest := []) (wr := [(wp, .inl (cI, 9000, .inl wpf))]) (ws' := wd_Mo_writeBlock w wd wp wi wo wh wm wb wc wl cB cI cJ win won whn wpl wdn wfo_23 wmn wpn wbn wcn wat wnu wdf wpf) C.call (c_Mo_taken l dC dI cB cI cJ w wd wi wo wh wm wp wb wc wl  win won whn wpl wdn wfo wmn wpn wbn wcn wat wnu wdf x4 x2 hc23) (cwV 2 hts (gd_V w_389 w_390 w_391 w_357 w_392) rfl rfl rfl ⟨rfl, hd_Mo_taken⟩ ⟨Nat.le_of_ble_eq_true rfl, Nat.le_of_ble_eq_true rfl⟩) rfl hl.1 rfl (Nat.le_of_ble_eq_true rfl) d_Mo_writeBlock_23 ⟨Nat.le_of_ble_eq_true rfl, Nat.le_of_ble_eq_true rfl⟩ hZ hK hP hD hS hA 7 0 rfl rfl [0, 1] [2] [1, 2, 0] rfl rfl rfl rfl (by decide) rfl rfl (fun H locs hP hD hS => ?_)
      refine lv_istore (lv' := [(5, .int r23), (0, .ref w), (2, .int x2), (3, .int x3), (4, .int x4)]) hx hb d_Mo_writeBlock_26 hl (by decide) rfl (fun ls hl => ?_)
      refine lv_iload hx hb d_Mo_writeBlock_28 (lv_at hl 0 rfl) ?_
      refine lv_if_ne (tgt := 39) hx hb d_Mo_writeBlock_30 (by decide) (fun c_30 => ?_) (fun c_30 => ?_)
      · have hf := br_neg c_30 hf
        refine lv_aload_n hx hb d_Mo_writeBlock_39 rfl (lv_at hl 1 rfl) ?_
        refine lv_iload_n hx hb d_Mo_writeBlock_40 rfl (lv_at hl 3 rfl) ?_
        refine lv_iload hx hb d_Mo_writeBlock_41 (lv_at hl 4 rfl) ?_
        refine lv_iload hx hb d_Mo_writeBlock_43 (lv_at hl 0 rfl) ?_
        refine lv_iload hx hb d_Mo_writeBlock_45 (lv_at hl 4 rfl) ?_
        refine lv_aload_n hx hb d_Mo_writeBlock_47 rfl (lv_at hl 1 rfl) ?_
        refine va_get (D := (dC, dI)) (ci := 7) (v := .int wfo_23) (C := R_Mo) (T := T_Mo) (N := 21) hx hb hts w_351 hown hK hP 0 rfl rfl 9 (by decide) (hts _ w_380) (fun _ h9 => h9) rfl d_Mo_writeBlock_48 ?_
        refine lv_isub hx hb d_Mo_writeBlock_51 ?_
        obtain ⟨wpn_52, wpf_52, hc52, hf⟩ := bd2_some hf
        refine s_Vv (As := [.int x3, .int x4, .int r23, .int (x4 - wfo_23)]) (rest := []) (wr := []) (ws' := wd_Mo_writeBlock w wd wp wi wo wh wm wb wc wl cB cI cJ win won whn wpl wdn wfo_23 wmn wpn_52 wbn wcn wat wnu wdf wpf_52) C.call (c_Mo_sequence l dC dI cB cI cJ w wd wp wi wo wh wm wb wc wl  win won whn wpl wdn wfo_23 wmn wpn wbn wcn wat wnu wdf wpf x3 x4 r23 (x4 - wfo_23) hc52) (cwV 4 hts (gd_V w_385 w_386 w_387 w_357 w_388) rfl rfl rfl ⟨rfl, hd_Mo_sequence⟩ ⟨Nat.le_of_ble_eq_true rfl, Nat.le_of_ble_eq_true rfl⟩) rfl hl.1 rfl (Nat.le_of_ble_eq_true rfl) d_Mo_writeBlock_52 ⟨Nat.le_of_ble_eq_true rfl, Nat.le_of_ble_eq_true rfl⟩ hZ hK hP hD hS hA 7 0 rfl rfl [0, 1, 2] [] [0, 1, 2] rfl rfl rfl rfl (by decide) rfl rfl (fun H locs hP hD hS => ?_)
        refine lv_iload hx hb d_Mo_writeBlock_55 (lv_at hl 4 rfl) ?_
        refine lv_iload hx hb d_Mo_writeBlock_57 (lv_at hl 0 rfl) ?_
        refine lv_iadd hx hb d_Mo_writeBlock_59 ?_
        refine lv_istore (lv' := [(4, .int (x4 + r23)), (5, .int r23), (0, .ref w), (2, .int x2), (3, .int x3)]) hx hb d_Mo_writeBlock_60 hl (by decide) rfl (fun ls hl => ?_)
        refine lv_iload hx hb d_Mo_writeBlock_62 (lv_at hl 0 rfl) ?_
        refine lv_istore_n (lv' := [(3, .int (x4 + r23)), (4, .int (x4 + r23)), (5, .int r23), (0, .ref w), (2, .int x2)]) hx hb d_Mo_writeBlock_64 rfl hl (by decide) rfl (fun ls hl => ?_)
        refine lv_goto (tgt := 10) hx hb d_Mo_writeBlock_65 (by decide) ?_
        exact ih10 (x4 + r23) (x4 + r23) wfo_23 wpn_52 wpf_52 hf _ _ hP hD hS _ (lv_sub hl [3, 4, 0, 1] rfl)
      · have hf := br_pos c_30 hf
        refine lv_iinc (v := (x4 + 1)) (lv' := [(4, .int (x4 + 1)), (5, .int r23), (0, .ref w), (2, .int x2), (3, .int x3)]) hx hb d_Mo_writeBlock_33 hl (k := 4) rfl (congrArg (fun z => x4 + z) (by decide)) (by decide) rfl (fun ls hl => ?_)
        refine lv_goto (tgt := 10) hx hb d_Mo_writeBlock_36 (by decide) ?_
        exact ih10 x3 (x4 + 1) wfo_23 wpn wpf hf _ _ hP hD hS _ (lv_sub hl [2, 3, 4, 0] rfl)
noncomputable def j_Mo_writeBlock_0 (N : Nat) (x1 : Int32) (x2 : Int32) (wdn : Int32) (wfo : Int32) (wdf : Nat → Int32) (wpf : Nat → Int32)  : Option (Int32 × Int32 × (Nat → Int32)) :=
  (loop5 (b_Mo_writeBlock_10 N x2 wdn wdf ) N x1 x1 wfo (0 : Int32) wpf)
set_option maxHeartbeats 4000000 in
set_option maxRecDepth 100000 in
theorem k_Mo_writeBlock_0 {wfo_z : Int32} {wpn_z : Int32} {wpf_z : Nat → Int32} (C : Fx p s m args meth c cd_Mo_writeBlock 6 R_Mo lw_g none) (hK : va_K (dC, dI) vwCl [(cB, .byte), (cI, .int), (cJ, .long)] s) (hA : ∀ q, s.heap.size ≤ q → A q) (x1 : Int32) (x2 : Int32) (win : Int32) (won : Int32) (whn : Int32) (wpl : Int32) (wdn : Int32) (wfo : Int32) (wmn : Int32) (wpn : Int32) (wbn : Int32) (wcn : Int32) (wat : Int32) (wnu : Int32) (wdf : Nat → Int32) (wpf : Nat → Int32)  (hf : j_Mo_writeBlock_0 N x1 x2 wdn wfo wdf wpf  = some (wfo_z, wpn_z, wpf_z)) (hP : va_P (dC, dI) vwCl (wd_Mo_writeBlock w wd wp wi wo wh wm wb wc wl cB cI cJ win won whn wpl wdn wfo wmn wpn wbn wcn wat wnu wdf wpf) H) (hD : va_D A (wd_Mo_writeBlock w wd wp wi wo wh wm wb wc wl cB cI cJ win won whn wpl wdn wfo wmn wpn wbn wcn wat wnu wdf wpf)) (hS : va_S A s.heap H locs) (hl : lv_has ls 6 [(0, .ref w), (1, .int x1), (2, .int x2)]) : W p l e rm_Mo_writeBlock s m args below meth c H locs 0 0 (MQ below (sQv (dC, dI) vwCl [(cB, .byte), (cI, .int), (cJ, .long)] A (wd_Mo_writeBlock w wd wp wi wo wh wm wb wc wl cB cI cJ win won whn wpl wdn wfo_z wmn wpn_z wbn wcn wat wnu wdf wpf_z)) args s 0 0 A) (F0 m 0 ls []) := by
  obtain ⟨hx, hb, hml, hown, hts, hr, hlocks, hZ⟩ := id C
  unfold j_Mo_writeBlock_0 at hf
  refine lv_aload_n hx hb d_Mo_writeBlock_0 rfl (lv_at hl 0 rfl) ?_
  refine lv_iconst (v := 0) hx hb d_Mo_writeBlock_1 (by decide) ?_
  refine va_put (D := (dC, dI)) (ci := 7) (v := .int (0 : Int32)) (ty := .int) (C := R_Mo) (T := T_Mo) (N := 21) hx hb hts w_351 ty_Mo ty_Mo_ok nm_Mo hown hK hP hD hS 0 rfl rfl 13 (by decide) (hts _ w_352) (fun _ h9 => h9) rfl (by decide +kernel) rfl rfl (Nat.le_of_ble_eq_true rfl) d_Mo_writeBlock_2 (fun H locs hP hD hS => ?_)
  have hP : va_P (dC, dI) vwCl (wd_Mo_writeBlock w wd wp wi wo wh wm wb wc wl cB cI cJ win won whn wpl wdn wfo wmn (0 : Int32) wbn wcn wat wnu wdf wpf) H := hP
  have hD : va_D A (wd_Mo_writeBlock w wd wp wi wo wh wm wb wc wl cB cI cJ win won whn wpl wdn wfo wmn (0 : Int32) wbn wcn wat wnu wdf wpf) := hD
  refine lv_iload_n hx hb d_Mo_writeBlock_5 rfl (lv_at hl 1 rfl) ?_
  refine lv_istore_n (lv' := [(3, .int x1), (0, .ref w), (1, .int x1), (2, .int x2)]) hx hb d_Mo_writeBlock_6 rfl hl (by decide) rfl (fun ls hl => ?_)
  refine lv_iload_n hx hb d_Mo_writeBlock_7 rfl (lv_at hl 2 rfl) ?_
  refine lv_istore (lv' := [(4, .int x1), (3, .int x1), (0, .ref w), (1, .int x1), (2, .int x2)]) hx hb d_Mo_writeBlock_8 hl (by decide) rfl (fun ls hl => ?_)
  exact k_Mo_writeBlock_10 C hK hA x2 win won whn wpl wdn wmn wbn wcn wat wnu wdf  N x1 x1 wfo (0 : Int32) wpf hf _ _ hP hD hS _ (lv_sub hl [2, 4, 1, 0] rfl)
end
noncomputable abbrev f_Mo_writeBlock (N : Nat) (x1 : Int32) (x2 : Int32) (wdn : Int32) (wfo : Int32) (wdf : Nat → Int32) (wpf : Nat → Int32) : Option (Int32 × Int32 × (Nat → Int32)) := j_Mo_writeBlock_0 N x1 x2 wdn wfo wdf wpf
set_option maxRecDepth 100000 in
theorem c_Mo_writeBlock {N : Nat} (l : Launch) (dC : Nat → ClassId) (dI : Nat → Nat → Nat) (cB cI cJ : ClassId) (w wd wp wi wo wh wm wb wc wl : Nat) (win : Int32) (won : Int32) (whn : Int32) (wpl : Int32) (wdn : Int32) (wfo : Int32) (wmn : Int32) (wpn : Int32) (wbn : Int32) (wcn : Int32) (wat : Int32) (wnu : Int32) (wdf : Nat → Int32) (wpf : Nat → Int32) (x1 : Int32) (x2 : Int32) {wfo_z : Int32} {wpn_z : Int32} {wpf_z : Nat → Int32} (hf : f_Mo_writeBlock N x1 x2 wdn wfo wdf wpf = some (wfo_z, wpn_z, wpf_z)) : MetV l y_Mo_writeBlock ws_Mo_writeBlock rm_Mo_writeBlock (dC, dI) vwCl [(cB, .byte), (cI, .int), (cJ, .long)] [.ref w, .int x1, .int x2] (wd_Mo_writeBlock w wd wp wi wo wh wm wb wc wl cB cI cJ win won whn wpl wdn wfo wmn wpn wbn wcn wat wnu wdf wpf)  (wd_Mo_writeBlock w wd wp wi wo wh wm wb wc wl cB cI cJ win won whn wpl wdn wfo_z wmn wpn_z wbn wcn wat wnu wdf wpf_z) 0 0 :=
  s_ofv (bytes := cd_Mo_writeBlock) (maxL := 6) (ret := none) (by decide) rfl (Nat.le_of_ble_eq_true rfl) (fun p e s m below meth c A ls C hK hA hP hD hS hl => k_Mo_writeBlock_0 C hK hA x1 x2 win won whn wpl wdn wfo wmn wpn wbn wcn wat wnu wdf wpf hf hP hD hS (lv_sub hl [0, 1, 2] rfl))

abbrev wd_Mo_block (w wi wo wh wd wp wm wb wc wl : Nat) (cB cI cJ : ClassId) (win : Int32) (won : Int32) (whn : Int32) (wpl : Int32) (wdn : Int32) (wfo : Int32) (wmn : Int32) (wpn : Int32) (wbn : Int32) (wcn : Int32) (wat : Int32) (wnu : Int32) (wif : Nat → Int32) (wof : Nat → Int32) (whf : Nat → Int32) (wdf : Nat → Int32) (wpf : Nat → Int32) : va_W := [(w, .inr (7, [.ref wi, .ref wo, .ref wh, .int win, .int won, .int whn, .int wpl, .ref wd, .int wdn, .int wfo, .ref wm, .int wmn, .ref wp, .int wpn, .ref wb, .int wbn, .ref wc, .int wcn, .ref wl, .int wat, .int wnu])), (wi, .inl (cI, 8000, .inl wif)), (wo, .inl (cI, 8000, .inl wof)), (wh, .inl (cI, 8000, .inl whf)), (wd, .inl (cI, 16000, .inl wdf)), (wp, .inl (cI, 9000, .inl wpf))]
abbrev rm_Mo_block : Room := { frames := 4, cells := 0, slots := 0, locals := 100 }
section
variable {p : Program} {l : Launch} {e : Env} {s : State} {m : MethodId} {args : Array Value} {below : List Frame} {meth : Method} {c : Code} {dC : Nat → ClassId} {dI : Nat → Nat → Nat} {A : Nat → Prop} {cB cI cJ : ClassId} {H : Heap} {locs : List Loc} {ls : Array Slot} {N : Nat} {w wi wo wh wd wp wm wb wc wl : Nat}
noncomputable def j_Mo_block_0 (N : Nat) (x1 : Int32) (win : Int32) (won : Int32) (whn : Int32) (wdn : Int32) (wfo : Int32) (wpn : Int32) (wif : Nat → Int32) (wof : Nat → Int32) (whf : Nat → Int32) (wdf : Nat → Int32) (wpf : Nat → Int32)  : Option (Int32 × Int32 × Int32 × Int32 × Int32 × (Nat → Int32) × (Nat → Int32) × (Nat → Int32)) :=
  (if x1 < 0 then (some ((-1 : Int32), won, wdn, wfo, wpn, wof, wdf, wpf) : Option (Int32 × Int32 × Int32 × Int32 × Int32 × (Nat → Int32) × (Nat → Int32) × (Nat → Int32))) else (if x1 ≤ (3 : Int32) then bd2 (f_Mo_begin N whn whf wdf) (fun wdn_12 wdf_12 => bd2 (f_Mo_append N (0 : Int32) win wdn_12 wif wdf_12) (fun wdn_21 wdf_21 => bd3 (f_Mo_writeBlock N whn x1 wdn_21 wfo wdf_21 wpf) (fun wfo_30 wpn_30 wpf_30 => bd3 (f_Mo_show N 9000 wpn_30 won wof wpf_30) (fun r42 won_42 wof_42 => (some (r42, won_42, wdn_21, wfo_30, wpn_30, wof_42, wdf_21, wpf_30) : Option (Int32 × Int32 × Int32 × Int32 × Int32 × (Nat → Int32) × (Nat → Int32) × (Nat → Int32))))))) else (some ((-1 : Int32), won, wdn, wfo, wpn, wof, wdf, wpf) : Option (Int32 × Int32 × Int32 × Int32 × Int32 × (Nat → Int32) × (Nat → Int32) × (Nat → Int32)))))
set_option maxHeartbeats 4000000 in
set_option maxRecDepth 100000 in
theorem k_Mo_block_0 {r_z : Int32} {won_z : Int32} {wdn_z : Int32} {wfo_z : Int32} {wpn_z : Int32} {wof_z : Nat → Int32} {wdf_z : Nat → Int32} {wpf_z : Nat → Int32} (C : Fx p s m args meth c cd_Mo_block 2 R_Mo lw_g (some .int)) (hK : va_K (dC, dI) vwCl [(cB, .byte), (cI, .int), (cJ, .long)] s) (hA : ∀ q, s.heap.size ≤ q → A q) (x1 : Int32) (win : Int32) (won : Int32) (whn : Int32) (wpl : Int32) (wdn : Int32) (wfo : Int32) (wmn : Int32) (wpn : Int32) (wbn : Int32) (wcn : Int32) (wat : Int32) (wnu : Int32) (wif : Nat → Int32) (wof : Nat → Int32) (whf : Nat → Int32) (wdf : Nat → Int32) (wpf : Nat → Int32)  (hf : j_Mo_block_0 N x1 win won whn wdn wfo wpn wif wof whf wdf wpf  = some (r_z, won_z, wdn_z, wfo_z, wpn_z, wof_z, wdf_z, wpf_z)) (hP : va_P (dC, dI) vwCl (wd_Mo_block w wi wo wh wd wp wm wb wc wl cB cI cJ win won whn wpl wdn wfo wmn wpn wbn wcn wat wnu wif wof whf wdf wpf) H) (hD : va_D A (wd_Mo_block w wi wo wh wd wp wm wb wc wl cB cI cJ win won whn wpl wdn wfo wmn wpn wbn wcn wat wnu wif wof whf wdf wpf)) (hS : va_S A s.heap H locs) (hl : lv_has ls 2 [(0, .ref w), (1, .int x1)]) : W p l e rm_Mo_block s m args below meth c H locs 0 0 (MQ below (sQi (dC, dI) vwCl [(cB, .byte), (cI, .int), (cJ, .long)] A r_z (wd_Mo_block w wi wo wh wd wp wm wb wc wl cB cI cJ win won_z whn wpl wdn_z wfo_z wmn wpn_z wbn wcn wat wnu wif wof_z whf wdf_z wpf_z)) args s 0 0 A) (F0 m 0 ls []) := by
  obtain ⟨hx, hb, hml, hown, hts, hr, hlocks, hZ⟩ := id C
  unfold j_Mo_block_0 at hf
  refine lv_iload_n hx hb d_Mo_block_0 rfl (lv_at hl 1 rfl) ?_
  refine lv_if_lt (tgt := 9) hx hb d_Mo_block_1 (by decide) (fun c_1 => ?_) (fun c_1 => ?_)
  · have hf := br_pos c_1 hf
    refine lv_iconst (v := -1) hx hb d_Mo_block_9 (by decide) ?_
    cases hf
    exact s_iret hx hb hr hlocks hP hK hD hS d_Mo_block_10
  · have hf := br_neg c_1 hf
    refine lv_iload_n hx hb d_Mo_block_4 rfl (lv_at hl 1 rfl) ?_
    refine lv_iconst (v := 3) hx hb d_Mo_block_5 (by decide) ?_
    refine lv_icmp_le (tgt := 11) hx hb d_Mo_block_6 (by decide) (fun c_6 => ?_) (fun c_6 => ?_)
    · have hf := br_pos c_6 hf
      refine lv_aload_n hx hb d_Mo_block_11 rfl (lv_at hl 0 rfl) ?_
      obtain ⟨wdn_12, wdf_12, hc12, hf⟩ := bd2_some hf
      refine s_Vv (As := []) (rest := []) (wr := [(wi, .inl (cI, 8000, .inl wif)), (wo, .inl (cI, 8000, .inl wof)), (wp, .inl (cI, 9000, .inl wpf))]) (ws' := wd_Mo_block w wi wo wh wd wp wm wb wc wl cB cI cJ win won whn wpl wdn_12 wfo wmn wpn wbn wcn wat wnu wif wof whf wdf_12 wpf) C.call (c_Mo_begin l dC dI cB cI cJ w wh wd wi wo wm wp wb wc wl  win won whn wpl wdn wfo wmn wpn wbn wcn wat wnu whf wdf  hc12) (cwV 0 hts (gd_V w_393 w_394 w_395 w_357 w_396) rfl rfl rfl ⟨rfl, hd_Mo_begin⟩ ⟨Nat.le_of_ble_eq_true rfl, Nat.le_of_ble_eq_true rfl⟩) rfl hl.1 rfl (Nat.le_of_ble_eq_true rfl) d_Mo_block_12 ⟨Nat.le_of_ble_eq_true rfl, Nat.le_of_ble_eq_true rfl⟩ hZ hK hP hD hS hA 7 0 rfl rfl [0, 3, 4] [1, 2, 5] [3, 0, 1, 4, 5, 2] rfl rfl rfl rfl (by decide) rfl rfl (fun H locs hP hD hS => ?_)
      refine lv_aload_n hx hb d_Mo_block_15 rfl (lv_at hl 0 rfl) ?_
      refine lv_iconst (v := 0) hx hb d_Mo_block_16 (by decide) ?_
      refine lv_aload_n hx hb d_Mo_block_17 rfl (lv_at hl 0 rfl) ?_
      refine va_get (D := (dC, dI)) (ci := 7) (v := .int win) (C := R_Mo) (T := T_Mo) (N := 21) hx hb hts w_351 hown hK hP 0 rfl rfl 3 (by decide) (hts _ w_362) (fun _ h9 => h9) rfl d_Mo_block_18 ?_
      obtain ⟨wdn_21, wdf_21, hc21, hf⟩ := bd2_some hf
      refine s_Vv (As := [.int (0 : Int32), .int win]) (rest := []) (wr := [(wo, .inl (cI, 8000, .inl wof)), (wh, .inl (cI, 8000, .inl whf)), (wp, .inl (cI, 9000, .inl wpf))]) (ws' := wd_Mo_block w wi wo wh wd wp wm wb wc wl cB cI cJ win won whn wpl wdn_21 wfo wmn wpn wbn wcn wat wnu wif wof whf wdf_21 wpf) C.call (c_Mo_append l dC dI cB cI cJ w wi wd wo wh wm wp wb wc wl  win won whn wpl wdn_12 wfo wmn wpn wbn wcn wat wnu wif wdf_12 (0 : Int32) win hc21) (cwV 2 hts (gd_V w_397 w_398 w_399 w_357 w_400) rfl rfl rfl ⟨rfl, hd_Mo_append⟩ ⟨Nat.le_of_ble_eq_true rfl, Nat.le_of_ble_eq_true rfl⟩) rfl hl.1 rfl (Nat.le_of_ble_eq_true rfl) d_Mo_block_21 ⟨Nat.le_of_ble_eq_true rfl, Nat.le_of_ble_eq_true rfl⟩ hZ hK hP hD hS hA 7 0 rfl rfl [0, 1, 4] [2, 3, 5] [3, 4, 0, 1, 5, 2] rfl rfl rfl rfl (by decide) rfl rfl (fun H locs hP hD hS => ?_)
      refine lv_aload_n hx hb d_Mo_block_24 rfl (lv_at hl 0 rfl) ?_
      refine lv_aload_n hx hb d_Mo_block_25 rfl (lv_at hl 0 rfl) ?_
      refine va_get (D := (dC, dI)) (ci := 7) (v := .int whn) (C := R_Mo) (T := T_Mo) (N := 21) hx hb hts w_351 hown hK hP 0 rfl rfl 5 (by decide) (hts _ w_365) (fun _ h9 => h9) rfl d_Mo_block_26 ?_
      refine lv_iload_n hx hb d_Mo_block_29 rfl (lv_at hl 1 rfl) ?_
      obtain ⟨wfo_30, wpn_30, wpf_30, hc30, hf⟩ := bd3_some hf
      refine s_Vv (As := [.int whn, .int x1]) (rest := []) (wr := [(wi, .inl (cI, 8000, .inl wif)), (wo, .inl (cI, 8000, .inl wof)), (wh, .inl (cI, 8000, .inl whf))]) (ws' := wd_Mo_block w wi wo wh wd wp wm wb wc wl cB cI cJ win won whn wpl wdn_21 wfo_30 wmn wpn_30 wbn wcn wat wnu wif wof whf wdf_21 wpf_30) C.call (c_Mo_writeBlock l dC dI cB cI cJ w wd wp wi wo wh wm wb wc wl  win won whn wpl wdn_21 wfo wmn wpn wbn wcn wat wnu wdf_21 wpf whn x1 hc30) (cwV 2 hts (gd_V w_401 w_402 w_403 w_357 w_404) rfl rfl rfl ⟨rfl, hd_Mo_writeBlock⟩ ⟨Nat.le_of_ble_eq_true rfl, Nat.le_of_ble_eq_true rfl⟩) rfl hl.1 rfl (Nat.le_of_ble_eq_true rfl) d_Mo_block_30 ⟨Nat.le_of_ble_eq_true rfl, Nat.le_of_ble_eq_true rfl⟩ hZ hK hP hD hS hA 7 0 rfl rfl [0, 4, 5] [1, 2, 3] [3, 0, 1, 2, 4, 5] rfl rfl rfl rfl (by decide) rfl rfl (fun H locs hP hD hS => ?_)
      refine lv_aload_n hx hb d_Mo_block_33 rfl (lv_at hl 0 rfl) ?_
      refine lv_aload_n hx hb d_Mo_block_34 rfl (lv_at hl 0 rfl) ?_
      refine va_get (D := (dC, dI)) (ci := 7) (v := .ref wp) (C := R_Mo) (T := T_Mo) (N := 21) hx hb hts w_351 hown hK hP 0 rfl rfl 12 (by decide) (hts _ w_353) (fun _ h9 => h9) rfl d_Mo_block_35 ?_
      refine lv_aload_n hx hb d_Mo_block_38 rfl (lv_at hl 0 rfl) ?_
      refine va_get (D := (dC, dI)) (ci := 7) (v := .int wpn_30) (C := R_Mo) (T := T_Mo) (N := 21) hx hb hts w_351 hown hK hP 0 rfl rfl 13 (by decide) (hts _ w_352) (fun _ h9 => h9) rfl d_Mo_block_39 ?_
      obtain ⟨r42, won_42, wof_42, hc42, hf⟩ := bd3_some hf
      refine s_Vi (As := [.ref wp, .int wpn_30]) (rest := []) (wr := [(wi, .inl (cI, 8000, .inl wif)), (wh, .inl (cI, 8000, .inl whf)), (wd, .inl (cI, 16000, .inl wdf_21))]) (ws' := wd_Mo_block w wi wo wh wd wp wm wb wc wl cB cI cJ win won_42 whn wpl wdn_21 wfo_30 wmn wpn_30 wbn wcn wat wnu wif wof_42 whf wdf_21 wpf_30) C.call (c_Mo_show l dC dI cB cI cJ w wo wp wi wh wd wm wp wb wc wl 9000 win won whn wpl wdn_21 wfo_30 wmn wpn_30 wbn wcn wat wnu wof wpf_30 wpn_30 hc42) (cwV 2 hts (gd_V w_405 w_406 w_407 w_357 w_408) rfl rfl rfl ⟨rfl, hd_Mo_show⟩ ⟨Nat.le_of_ble_eq_true rfl, Nat.le_of_ble_eq_true rfl⟩) rfl hl.1 rfl (Nat.le_of_ble_eq_true rfl) d_Mo_block_42 ⟨Nat.le_of_ble_eq_true rfl, Nat.le_of_ble_eq_true rfl⟩ hZ hK hP hD hS hA 7 0 rfl rfl [0, 2, 5] [1, 3, 4] [3, 0, 4, 1, 2, 5] rfl rfl rfl rfl (by decide) rfl rfl (fun H locs hP hD hS => ?_)
      cases hf
      exact s_iret hx hb hr hlocks hP hK hD hS d_Mo_block_45
    · have hf := br_neg c_6 hf
      refine lv_iconst (v := -1) hx hb d_Mo_block_9 (by decide) ?_
      cases hf
      exact s_iret hx hb hr hlocks hP hK hD hS d_Mo_block_10
end
noncomputable abbrev f_Mo_block (N : Nat) (x1 : Int32) (win : Int32) (won : Int32) (whn : Int32) (wdn : Int32) (wfo : Int32) (wpn : Int32) (wif : Nat → Int32) (wof : Nat → Int32) (whf : Nat → Int32) (wdf : Nat → Int32) (wpf : Nat → Int32) : Option (Int32 × Int32 × Int32 × Int32 × Int32 × (Nat → Int32) × (Nat → Int32) × (Nat → Int32)) := j_Mo_block_0 N x1 win won whn wdn wfo wpn wif wof whf wdf wpf
set_option maxRecDepth 100000 in
theorem c_Mo_block {N : Nat} (l : Launch) (dC : Nat → ClassId) (dI : Nat → Nat → Nat) (cB cI cJ : ClassId) (w wi wo wh wd wp wm wb wc wl : Nat) (win : Int32) (won : Int32) (whn : Int32) (wpl : Int32) (wdn : Int32) (wfo : Int32) (wmn : Int32) (wpn : Int32) (wbn : Int32) (wcn : Int32) (wat : Int32) (wnu : Int32) (wif : Nat → Int32) (wof : Nat → Int32) (whf : Nat → Int32) (wdf : Nat → Int32) (wpf : Nat → Int32) (x1 : Int32) {r_z : Int32} {won_z : Int32} {wdn_z : Int32} {wfo_z : Int32} {wpn_z : Int32} {wof_z : Nat → Int32} {wdf_z : Nat → Int32} {wpf_z : Nat → Int32} (hf : f_Mo_block N x1 win won whn wdn wfo wpn wif wof whf wdf wpf = some (r_z, won_z, wdn_z, wfo_z, wpn_z, wof_z, wdf_z, wpf_z)) : MetI l y_Mo_block ws_Mo_block rm_Mo_block (dC, dI) vwCl [(cB, .byte), (cI, .int), (cJ, .long)] [.ref w, .int x1] (wd_Mo_block w wi wo wh wd wp wm wb wc wl cB cI cJ win won whn wpl wdn wfo wmn wpn wbn wcn wat wnu wif wof whf wdf wpf) r_z (wd_Mo_block w wi wo wh wd wp wm wb wc wl cB cI cJ win won_z whn wpl wdn_z wfo_z wmn wpn_z wbn wcn wat wnu wif wof_z whf wdf_z wpf_z) 0 0 :=
  s_ofi (bytes := cd_Mo_block) (maxL := 2) (ret := (some .int)) (by decide) rfl (Nat.le_of_ble_eq_true rfl) (fun p e s m below meth c A ls C hK hA hP hD hS hl => k_Mo_block_0 C hK hA x1 win won whn wpl wdn wfo wmn wpn wbn wcn wat wnu wif wof whf wdf wpf hf hP hD hS (lv_sub hl [0, 1] rfl))

abbrev wd_Mo_byteAt (w wo wi wh wd wm wp wb wc wl : Nat) (cB cI cJ : ClassId) (win : Int32) (won : Int32) (whn : Int32) (wpl : Int32) (wdn : Int32) (wfo : Int32) (wmn : Int32) (wpn : Int32) (wbn : Int32) (wcn : Int32) (wat : Int32) (wnu : Int32) (wof : Nat → Int32) : va_W := [(w, .inr (7, [.ref wi, .ref wo, .ref wh, .int win, .int won, .int whn, .int wpl, .ref wd, .int wdn, .int wfo, .ref wm, .int wmn, .ref wp, .int wpn, .ref wb, .int wbn, .ref wc, .int wcn, .ref wl, .int wat, .int wnu])), (wo, .inl (cI, 8000, .inl wof))]
abbrev rm_Mo_byteAt : Room := { frames := 0, cells := 0, slots := 0, locals := 0 }
section
variable {p : Program} {l : Launch} {e : Env} {s : State} {m : MethodId} {args : Array Value} {below : List Frame} {meth : Method} {c : Code} {dC : Nat → ClassId} {dI : Nat → Nat → Nat} {A : Nat → Prop} {cB cI cJ : ClassId} {H : Heap} {locs : List Loc} {ls : Array Slot} {N : Nat} {w wo wi wh wd wm wp wb wc wl : Nat}
noncomputable def j_Mo_byteAt_12   : Option (Int32) :=
  (some (-1 : Int32) : Option (Int32))
set_option maxHeartbeats 4000000 in
set_option maxRecDepth 100000 in
theorem k_Mo_byteAt_12 {r_z : Int32} (C : Fx p s m args meth c cd_Mo_byteAt 2 R_Mo lw_g (some .int)) (hK : va_K (dC, dI) vwCl [(cB, .byte), (cI, .int), (cJ, .long)] s) (hA : ∀ q, s.heap.size ≤ q → A q) (win : Int32) (won : Int32) (whn : Int32) (wpl : Int32) (wdn : Int32) (wfo : Int32) (wmn : Int32) (wpn : Int32) (wbn : Int32) (wcn : Int32) (wat : Int32) (wnu : Int32) (wof : Nat → Int32)  (hf : j_Mo_byteAt_12   = some r_z) (hP : va_P (dC, dI) vwCl (wd_Mo_byteAt w wo wi wh wd wm wp wb wc wl cB cI cJ win won whn wpl wdn wfo wmn wpn wbn wcn wat wnu wof) H) (hD : va_D A (wd_Mo_byteAt w wo wi wh wd wm wp wb wc wl cB cI cJ win won whn wpl wdn wfo wmn wpn wbn wcn wat wnu wof)) (hS : va_S A s.heap H locs) (hl : lv_has ls 2 []) : W p l e rm_Mo_byteAt s m args below meth c H locs 0 0 (MQ below (sQi (dC, dI) vwCl [(cB, .byte), (cI, .int), (cJ, .long)] A r_z (wd_Mo_byteAt w wo wi wh wd wm wp wb wc wl cB cI cJ win won whn wpl wdn wfo wmn wpn wbn wcn wat wnu wof)) args s 0 0 A) (F0 m 12 ls []) := by
  obtain ⟨hx, hb, hml, hown, hts, hr, hlocks, hZ⟩ := id C
  unfold j_Mo_byteAt_12 at hf
  refine lv_iconst (v := -1) hx hb d_Mo_byteAt_12 (by decide) ?_
  refine lv_goto (tgt := 22) hx hb d_Mo_byteAt_13 (by decide) ?_
  cases hf
  exact s_iret hx hb hr hlocks hP hK hD hS d_Mo_byteAt_22
noncomputable def j_Mo_byteAt_0 (x1 : Int32) (won : Int32) (wof : Nat → Int32)  : Option (Int32) :=
  (if x1 < 0 then (j_Mo_byteAt_12  ) else (if x1 < won then as_ (vp_in x1 8000) ((some (wof x1.toNatClampNeg) : Option (Int32))) else (j_Mo_byteAt_12  )))
set_option maxHeartbeats 4000000 in
set_option maxRecDepth 100000 in
theorem k_Mo_byteAt_0 {r_z : Int32} (C : Fx p s m args meth c cd_Mo_byteAt 2 R_Mo lw_g (some .int)) (hK : va_K (dC, dI) vwCl [(cB, .byte), (cI, .int), (cJ, .long)] s) (hA : ∀ q, s.heap.size ≤ q → A q) (x1 : Int32) (win : Int32) (won : Int32) (whn : Int32) (wpl : Int32) (wdn : Int32) (wfo : Int32) (wmn : Int32) (wpn : Int32) (wbn : Int32) (wcn : Int32) (wat : Int32) (wnu : Int32) (wof : Nat → Int32)  (hf : j_Mo_byteAt_0 x1 won wof  = some r_z) (hP : va_P (dC, dI) vwCl (wd_Mo_byteAt w wo wi wh wd wm wp wb wc wl cB cI cJ win won whn wpl wdn wfo wmn wpn wbn wcn wat wnu wof) H) (hD : va_D A (wd_Mo_byteAt w wo wi wh wd wm wp wb wc wl cB cI cJ win won whn wpl wdn wfo wmn wpn wbn wcn wat wnu wof)) (hS : va_S A s.heap H locs) (hl : lv_has ls 2 [(0, .ref w), (1, .int x1)]) : W p l e rm_Mo_byteAt s m args below meth c H locs 0 0 (MQ below (sQi (dC, dI) vwCl [(cB, .byte), (cI, .int), (cJ, .long)] A r_z (wd_Mo_byteAt w wo wi wh wd wm wp wb wc wl cB cI cJ win won whn wpl wdn wfo wmn wpn wbn wcn wat wnu wof)) args s 0 0 A) (F0 m 0 ls []) := by
  obtain ⟨hx, hb, hml, hown, hts, hr, hlocks, hZ⟩ := id C
  unfold j_Mo_byteAt_0 at hf
  refine lv_iload_n hx hb d_Mo_byteAt_0 rfl (lv_at hl 1 rfl) ?_
  refine lv_if_lt (tgt := 12) hx hb d_Mo_byteAt_1 (by decide) (fun c_1 => ?_) (fun c_1 => ?_)
  · have hf := br_pos c_1 hf
    exact k_Mo_byteAt_12 C hK hA win won whn wpl wdn wfo wmn wpn wbn wcn wat wnu wof  hf hP hD hS (lv_sub hl [] rfl)
  · have hf := br_neg c_1 hf
    refine lv_iload_n hx hb d_Mo_byteAt_4 rfl (lv_at hl 1 rfl) ?_
    refine lv_aload_n hx hb d_Mo_byteAt_5 rfl (lv_at hl 0 rfl) ?_
    refine va_get (D := (dC, dI)) (ci := 7) (v := .int won) (C := R_Mo) (T := T_Mo) (N := 21) hx hb hts w_351 hown hK hP 0 rfl rfl 4 (by decide) (hts _ w_369) (fun _ h9 => h9) rfl d_Mo_byteAt_6 ?_
    refine lv_icmp_lt (tgt := 16) hx hb d_Mo_byteAt_9 (by decide) (fun c_9 => ?_) (fun c_9 => ?_)
    · have hf := br_pos c_9 hf
      refine lv_aload_n hx hb d_Mo_byteAt_16 rfl (lv_at hl 0 rfl) ?_
      refine va_get (D := (dC, dI)) (ci := 7) (v := .ref wo) (C := R_Mo) (T := T_Mo) (N := 21) hx hb hts w_351 hown hK hP 0 rfl rfl 1 (by decide) (hts _ w_370) (fun _ h9 => h9) rfl d_Mo_byteAt_17 ?_
      refine lv_iload_n hx hb d_Mo_byteAt_20 rfl (lv_at hl 1 rfl) ?_
      obtain ⟨h_in, hf⟩ := as_some hf
      refine va_iald hx hb hK hP 1 1 rfl rfl h_in d_Mo_byteAt_21 ?_
      cases hf
      exact s_iret hx hb hr hlocks hP hK hD hS d_Mo_byteAt_22
    · have hf := br_neg c_9 hf
      exact k_Mo_byteAt_12 C hK hA win won whn wpl wdn wfo wmn wpn wbn wcn wat wnu wof  hf hP hD hS (lv_sub hl [] rfl)
end
noncomputable abbrev f_Mo_byteAt (x1 : Int32) (won : Int32) (wof : Nat → Int32) : Option (Int32) := j_Mo_byteAt_0 x1 won wof
set_option maxRecDepth 100000 in
theorem c_Mo_byteAt (l : Launch) (dC : Nat → ClassId) (dI : Nat → Nat → Nat) (cB cI cJ : ClassId) (w wo wi wh wd wm wp wb wc wl : Nat) (win : Int32) (won : Int32) (whn : Int32) (wpl : Int32) (wdn : Int32) (wfo : Int32) (wmn : Int32) (wpn : Int32) (wbn : Int32) (wcn : Int32) (wat : Int32) (wnu : Int32) (wof : Nat → Int32) (x1 : Int32) {r_z : Int32} (hf : f_Mo_byteAt x1 won wof = some r_z) : MetI l y_Mo_byteAt ws_Mo_byteAt rm_Mo_byteAt (dC, dI) vwCl [(cB, .byte), (cI, .int), (cJ, .long)] [.ref w, .int x1] (wd_Mo_byteAt w wo wi wh wd wm wp wb wc wl cB cI cJ win won whn wpl wdn wfo wmn wpn wbn wcn wat wnu wof) r_z (wd_Mo_byteAt w wo wi wh wd wm wp wb wc wl cB cI cJ win won whn wpl wdn wfo wmn wpn wbn wcn wat wnu wof) 0 0 :=
  s_ofi (bytes := cd_Mo_byteAt) (maxL := 2) (ret := (some .int)) (by decide) rfl (Nat.le_of_ble_eq_true rfl) (fun p e s m below meth c A ls C hK hA hP hD hS hl => k_Mo_byteAt_0 C hK hA x1 win won whn wpl wdn wfo wmn wpn wbn wcn wat wnu wof hf hP hD hS (lv_sub hl [0, 1] rfl))

abbrev wd_Mo_clear (w wi wo wh wd wm wp wb wc wl : Nat) (cB cI cJ : ClassId) (win : Int32) (won : Int32) (whn : Int32) (wpl : Int32) (wdn : Int32) (wfo : Int32) (wmn : Int32) (wpn : Int32) (wbn : Int32) (wcn : Int32) (wat : Int32) (wnu : Int32) : va_W := [(w, .inr (7, [.ref wi, .ref wo, .ref wh, .int win, .int won, .int whn, .int wpl, .ref wd, .int wdn, .int wfo, .ref wm, .int wmn, .ref wp, .int wpn, .ref wb, .int wbn, .ref wc, .int wcn, .ref wl, .int wat, .int wnu]))]
abbrev rm_Mo_clear : Room := { frames := 0, cells := 0, slots := 0, locals := 0 }
section
variable {p : Program} {l : Launch} {e : Env} {s : State} {m : MethodId} {args : Array Value} {below : List Frame} {meth : Method} {c : Code} {dC : Nat → ClassId} {dI : Nat → Nat → Nat} {A : Nat → Prop} {cB cI cJ : ClassId} {H : Heap} {locs : List Loc} {ls : Array Slot} {N : Nat} {w wi wo wh wd wm wp wb wc wl : Nat}
noncomputable def j_Mo_clear_0   : Option (Int32) :=
  (some (0 : Int32) : Option (Int32))
set_option maxHeartbeats 4000000 in
set_option maxRecDepth 100000 in
theorem k_Mo_clear_0 {win_z : Int32} (C : Fx p s m args meth c cd_Mo_clear 1 R_Mo lw_g none) (hK : va_K (dC, dI) vwCl [(cB, .byte), (cI, .int), (cJ, .long)] s) (hA : ∀ q, s.heap.size ≤ q → A q) (win : Int32) (won : Int32) (whn : Int32) (wpl : Int32) (wdn : Int32) (wfo : Int32) (wmn : Int32) (wpn : Int32) (wbn : Int32) (wcn : Int32) (wat : Int32) (wnu : Int32)  (hf : j_Mo_clear_0   = some win_z) (hP : va_P (dC, dI) vwCl (wd_Mo_clear w wi wo wh wd wm wp wb wc wl cB cI cJ win won whn wpl wdn wfo wmn wpn wbn wcn wat wnu) H) (hD : va_D A (wd_Mo_clear w wi wo wh wd wm wp wb wc wl cB cI cJ win won whn wpl wdn wfo wmn wpn wbn wcn wat wnu)) (hS : va_S A s.heap H locs) (hl : lv_has ls 1 [(0, .ref w)]) : W p l e rm_Mo_clear s m args below meth c H locs 0 0 (MQ below (sQv (dC, dI) vwCl [(cB, .byte), (cI, .int), (cJ, .long)] A (wd_Mo_clear w wi wo wh wd wm wp wb wc wl cB cI cJ win_z won whn wpl wdn wfo wmn wpn wbn wcn wat wnu)) args s 0 0 A) (F0 m 0 ls []) := by
  obtain ⟨hx, hb, hml, hown, hts, hr, hlocks, hZ⟩ := id C
  unfold j_Mo_clear_0 at hf
  refine lv_aload_n hx hb d_Mo_clear_0 rfl (lv_at hl 0 rfl) ?_
  refine lv_iconst (v := 0) hx hb d_Mo_clear_1 (by decide) ?_
  refine va_put (D := (dC, dI)) (ci := 7) (v := .int (0 : Int32)) (ty := .int) (C := R_Mo) (T := T_Mo) (N := 21) hx hb hts w_351 ty_Mo ty_Mo_ok nm_Mo hown hK hP hD hS 0 rfl rfl 3 (by decide) (hts _ w_362) (fun _ h9 => h9) rfl (by decide +kernel) rfl rfl (Nat.le_of_ble_eq_true rfl) d_Mo_clear_2 (fun H locs hP hD hS => ?_)
  have hP : va_P (dC, dI) vwCl (wd_Mo_clear w wi wo wh wd wm wp wb wc wl cB cI cJ (0 : Int32) won whn wpl wdn wfo wmn wpn wbn wcn wat wnu) H := hP
  have hD : va_D A (wd_Mo_clear w wi wo wh wd wm wp wb wc wl cB cI cJ (0 : Int32) won whn wpl wdn wfo wmn wpn wbn wcn wat wnu) := hD
  cases hf
  exact s_vret hx hb hr hlocks hP hK hD hS d_Mo_clear_5
end
noncomputable abbrev f_Mo_clear  : Option (Int32) := j_Mo_clear_0 
set_option maxRecDepth 100000 in
theorem c_Mo_clear (l : Launch) (dC : Nat → ClassId) (dI : Nat → Nat → Nat) (cB cI cJ : ClassId) (w wi wo wh wd wm wp wb wc wl : Nat) (win : Int32) (won : Int32) (whn : Int32) (wpl : Int32) (wdn : Int32) (wfo : Int32) (wmn : Int32) (wpn : Int32) (wbn : Int32) (wcn : Int32) (wat : Int32) (wnu : Int32)  {win_z : Int32} (hf : f_Mo_clear  = some win_z) : MetV l y_Mo_clear ws_Mo_clear rm_Mo_clear (dC, dI) vwCl [(cB, .byte), (cI, .int), (cJ, .long)] [.ref w] (wd_Mo_clear w wi wo wh wd wm wp wb wc wl cB cI cJ win won whn wpl wdn wfo wmn wpn wbn wcn wat wnu)  (wd_Mo_clear w wi wo wh wd wm wp wb wc wl cB cI cJ win_z won whn wpl wdn wfo wmn wpn wbn wcn wat wnu) 0 0 :=
  s_ofv (bytes := cd_Mo_clear) (maxL := 1) (ret := none) (by decide) rfl (Nat.le_of_ble_eq_true rfl) (fun p e s m below meth c A ls C hK hA hP hD hS hl => k_Mo_clear_0 C hK hA win won whn wpl wdn wfo wmn wpn wbn wcn wat wnu hf hP hD hS (lv_sub hl [0] rfl))

abbrev wd_Mo_fault (w wi wo wh wd wm wp wb wc wl : Nat) (cB cI cJ : ClassId) (win : Int32) (won : Int32) (whn : Int32) (wpl : Int32) (wdn : Int32) (wfo : Int32) (wmn : Int32) (wpn : Int32) (wbn : Int32) (wcn : Int32) (wat : Int32) (wnu : Int32) : va_W := [(w, .inr (7, [.ref wi, .ref wo, .ref wh, .int win, .int won, .int whn, .int wpl, .ref wd, .int wdn, .int wfo, .ref wm, .int wmn, .ref wp, .int wpn, .ref wb, .int wbn, .ref wc, .int wcn, .ref wl, .int wat, .int wnu]))]
abbrev rm_Mo_fault : Room := { frames := 0, cells := 0, slots := 0, locals := 0 }
section
variable {p : Program} {l : Launch} {e : Env} {s : State} {m : MethodId} {args : Array Value} {below : List Frame} {meth : Method} {c : Code} {dC : Nat → ClassId} {dI : Nat → Nat → Nat} {A : Nat → Prop} {cB cI cJ : ClassId} {H : Heap} {locs : List Loc} {ls : Array Slot} {N : Nat} {w wi wo wh wd wm wp wb wc wl : Nat}
noncomputable def j_Mo_fault_0 (x1 : Int32) (x2 : Int32)  : Option (Int32 × Int32) :=
  (some (x1, x2) : Option (Int32 × Int32))
set_option maxHeartbeats 4000000 in
set_option maxRecDepth 100000 in
theorem k_Mo_fault_0 {r_z : Int32} {wpl_z : Int32} (C : Fx p s m args meth c cd_Mo_fault 3 R_Mo lw_g (some .int)) (hK : va_K (dC, dI) vwCl [(cB, .byte), (cI, .int), (cJ, .long)] s) (hA : ∀ q, s.heap.size ≤ q → A q) (x1 : Int32) (x2 : Int32) (win : Int32) (won : Int32) (whn : Int32) (wpl : Int32) (wdn : Int32) (wfo : Int32) (wmn : Int32) (wpn : Int32) (wbn : Int32) (wcn : Int32) (wat : Int32) (wnu : Int32)  (hf : j_Mo_fault_0 x1 x2  = some (r_z, wpl_z)) (hP : va_P (dC, dI) vwCl (wd_Mo_fault w wi wo wh wd wm wp wb wc wl cB cI cJ win won whn wpl wdn wfo wmn wpn wbn wcn wat wnu) H) (hD : va_D A (wd_Mo_fault w wi wo wh wd wm wp wb wc wl cB cI cJ win won whn wpl wdn wfo wmn wpn wbn wcn wat wnu)) (hS : va_S A s.heap H locs) (hl : lv_has ls 3 [(0, .ref w), (1, .int x1), (2, .int x2)]) : W p l e rm_Mo_fault s m args below meth c H locs 0 0 (MQ below (sQi (dC, dI) vwCl [(cB, .byte), (cI, .int), (cJ, .long)] A r_z (wd_Mo_fault w wi wo wh wd wm wp wb wc wl cB cI cJ win won whn wpl_z wdn wfo wmn wpn wbn wcn wat wnu)) args s 0 0 A) (F0 m 0 ls []) := by
  obtain ⟨hx, hb, hml, hown, hts, hr, hlocks, hZ⟩ := id C
  unfold j_Mo_fault_0 at hf
  refine lv_aload_n hx hb d_Mo_fault_0 rfl (lv_at hl 0 rfl) ?_
  refine lv_iload_n hx hb d_Mo_fault_1 rfl (lv_at hl 2 rfl) ?_
  refine va_put (D := (dC, dI)) (ci := 7) (v := .int x2) (ty := .int) (C := R_Mo) (T := T_Mo) (N := 21) hx hb hts w_351 ty_Mo ty_Mo_ok nm_Mo hown hK hP hD hS 0 rfl rfl 6 (by decide) (hts _ w_409) (fun _ h9 => h9) rfl (by decide +kernel) rfl rfl (Nat.le_of_ble_eq_true rfl) d_Mo_fault_2 (fun H locs hP hD hS => ?_)
  have hP : va_P (dC, dI) vwCl (wd_Mo_fault w wi wo wh wd wm wp wb wc wl cB cI cJ win won whn x2 wdn wfo wmn wpn wbn wcn wat wnu) H := hP
  have hD : va_D A (wd_Mo_fault w wi wo wh wd wm wp wb wc wl cB cI cJ win won whn x2 wdn wfo wmn wpn wbn wcn wat wnu) := hD
  refine lv_iload_n hx hb d_Mo_fault_5 rfl (lv_at hl 1 rfl) ?_
  cases hf
  exact s_iret hx hb hr hlocks hP hK hD hS d_Mo_fault_6
end
noncomputable abbrev f_Mo_fault (x1 : Int32) (x2 : Int32) : Option (Int32 × Int32) := j_Mo_fault_0 x1 x2
set_option maxRecDepth 100000 in
theorem c_Mo_fault (l : Launch) (dC : Nat → ClassId) (dI : Nat → Nat → Nat) (cB cI cJ : ClassId) (w wi wo wh wd wm wp wb wc wl : Nat) (win : Int32) (won : Int32) (whn : Int32) (wpl : Int32) (wdn : Int32) (wfo : Int32) (wmn : Int32) (wpn : Int32) (wbn : Int32) (wcn : Int32) (wat : Int32) (wnu : Int32) (x1 : Int32) (x2 : Int32) {r_z : Int32} {wpl_z : Int32} (hf : f_Mo_fault x1 x2 = some (r_z, wpl_z)) : MetI l y_Mo_fault ws_Mo_fault rm_Mo_fault (dC, dI) vwCl [(cB, .byte), (cI, .int), (cJ, .long)] [.ref w, .int x1, .int x2] (wd_Mo_fault w wi wo wh wd wm wp wb wc wl cB cI cJ win won whn wpl wdn wfo wmn wpn wbn wcn wat wnu) r_z (wd_Mo_fault w wi wo wh wd wm wp wb wc wl cB cI cJ win won whn wpl_z wdn wfo wmn wpn wbn wcn wat wnu) 0 0 :=
  s_ofi (bytes := cd_Mo_fault) (maxL := 3) (ret := (some .int)) (by decide) rfl (Nat.le_of_ble_eq_true rfl) (fun p e s m below meth c A ls C hK hA hP hD hS hl => k_Mo_fault_0 C hK hA x1 x2 win won whn wpl wdn wfo wmn wpn wbn wcn wat wnu hf hP hD hS (lv_sub hl [0, 1, 2] rfl))

abbrev wd_Mo_make (w wm wi wo wh wd wp wb wc wl : Nat) (cB cI cJ : ClassId) (win : Int32) (won : Int32) (whn : Int32) (wpl : Int32) (wdn : Int32) (wfo : Int32) (wmn : Int32) (wpn : Int32) (wbn : Int32) (wcn : Int32) (wat : Int32) (wnu : Int32) (wmf : Nat → Int32) : va_W := [(w, .inr (7, [.ref wi, .ref wo, .ref wh, .int win, .int won, .int whn, .int wpl, .ref wd, .int wdn, .int wfo, .ref wm, .int wmn, .ref wp, .int wpn, .ref wb, .int wbn, .ref wc, .int wcn, .ref wl, .int wat, .int wnu])), (wm, .inl (cI, 9000, .inl wmf))]
abbrev rm_Mo_make : Room := { frames := 0, cells := 0, slots := 0, locals := 0 }
section
variable {p : Program} {l : Launch} {e : Env} {s : State} {m : MethodId} {args : Array Value} {below : List Frame} {meth : Method} {c : Code} {dC : Nat → ClassId} {dI : Nat → Nat → Nat} {A : Nat → Prop} {cB cI cJ : ClassId} {H : Heap} {locs : List Loc} {ls : Array Slot} {N : Nat} {w wm wi wo wh wd wp wb wc wl : Nat}
noncomputable def j_Mo_make_20 (wmn : Int32) (wmf : Nat → Int32)  : Option (Int32 × (Nat → Int32)) :=
  (some ((wmn + (1 : Int32)), wmf) : Option (Int32 × (Nat → Int32)))
set_option maxHeartbeats 4000000 in
set_option maxRecDepth 100000 in
theorem k_Mo_make_20 {wmn_z : Int32} {wmf_z : Nat → Int32} (C : Fx p s m args meth c cd_Mo_make 2 R_Mo lw_g none) (hK : va_K (dC, dI) vwCl [(cB, .byte), (cI, .int), (cJ, .long)] s) (hA : ∀ q, s.heap.size ≤ q → A q) (win : Int32) (won : Int32) (whn : Int32) (wpl : Int32) (wdn : Int32) (wfo : Int32) (wmn : Int32) (wpn : Int32) (wbn : Int32) (wcn : Int32) (wat : Int32) (wnu : Int32) (wmf : Nat → Int32)  (hf : j_Mo_make_20 wmn wmf  = some (wmn_z, wmf_z)) (hP : va_P (dC, dI) vwCl (wd_Mo_make w wm wi wo wh wd wp wb wc wl cB cI cJ win won whn wpl wdn wfo wmn wpn wbn wcn wat wnu wmf) H) (hD : va_D A (wd_Mo_make w wm wi wo wh wd wp wb wc wl cB cI cJ win won whn wpl wdn wfo wmn wpn wbn wcn wat wnu wmf)) (hS : va_S A s.heap H locs) (hl : lv_has ls 2 [(0, .ref w)]) : W p l e rm_Mo_make s m args below meth c H locs 0 0 (MQ below (sQv (dC, dI) vwCl [(cB, .byte), (cI, .int), (cJ, .long)] A (wd_Mo_make w wm wi wo wh wd wp wb wc wl cB cI cJ win won whn wpl wdn wfo wmn_z wpn wbn wcn wat wnu wmf_z)) args s 0 0 A) (F0 m 20 ls []) := by
  obtain ⟨hx, hb, hml, hown, hts, hr, hlocks, hZ⟩ := id C
  unfold j_Mo_make_20 at hf
  refine lv_aload_n hx hb d_Mo_make_20 rfl (lv_at hl 0 rfl) ?_
  refine lv_dup hx hb d_Mo_make_21 rfl ?_
  refine va_get (D := (dC, dI)) (ci := 7) (v := .int wmn) (C := R_Mo) (T := T_Mo) (N := 21) hx hb hts w_351 hown hK hP 0 rfl rfl 11 (by decide) (hts _ w_410) (fun _ h9 => h9) rfl d_Mo_make_22 ?_
  refine lv_iconst (v := 1) hx hb d_Mo_make_25 (by decide) ?_
  refine lv_iadd hx hb d_Mo_make_26 ?_
  refine va_put (D := (dC, dI)) (ci := 7) (v := .int (wmn + (1 : Int32))) (ty := .int) (C := R_Mo) (T := T_Mo) (N := 21) hx hb hts w_351 ty_Mo ty_Mo_ok nm_Mo hown hK hP hD hS 0 rfl rfl 11 (by decide) (hts _ w_410) (fun _ h9 => h9) rfl (by decide +kernel) rfl rfl (Nat.le_of_ble_eq_true rfl) d_Mo_make_27 (fun H locs hP hD hS => ?_)
  have hP : va_P (dC, dI) vwCl (wd_Mo_make w wm wi wo wh wd wp wb wc wl cB cI cJ win won whn wpl wdn wfo (wmn + (1 : Int32)) wpn wbn wcn wat wnu wmf) H := hP
  have hD : va_D A (wd_Mo_make w wm wi wo wh wd wp wb wc wl cB cI cJ win won whn wpl wdn wfo (wmn + (1 : Int32)) wpn wbn wcn wat wnu wmf) := hD
  cases hf
  exact s_vret hx hb hr hlocks hP hK hD hS d_Mo_make_30
noncomputable def j_Mo_make_0 (x1 : Int32) (wmn : Int32) (wmf : Nat → Int32)  : Option (Int32 × (Nat → Int32)) :=
  (if (9000 : Int32) ≤ wmn then (j_Mo_make_20 wmn wmf ) else as_ (vp_in wmn 9000) ((j_Mo_make_20 wmn (upd wmf wmn.toNatClampNeg x1) )))
set_option maxHeartbeats 4000000 in
set_option maxRecDepth 100000 in
theorem k_Mo_make_0 {wmn_z : Int32} {wmf_z : Nat → Int32} (C : Fx p s m args meth c cd_Mo_make 2 R_Mo lw_g none) (hK : va_K (dC, dI) vwCl [(cB, .byte), (cI, .int), (cJ, .long)] s) (hA : ∀ q, s.heap.size ≤ q → A q) (x1 : Int32) (win : Int32) (won : Int32) (whn : Int32) (wpl : Int32) (wdn : Int32) (wfo : Int32) (wmn : Int32) (wpn : Int32) (wbn : Int32) (wcn : Int32) (wat : Int32) (wnu : Int32) (wmf : Nat → Int32)  (hf : j_Mo_make_0 x1 wmn wmf  = some (wmn_z, wmf_z)) (hP : va_P (dC, dI) vwCl (wd_Mo_make w wm wi wo wh wd wp wb wc wl cB cI cJ win won whn wpl wdn wfo wmn wpn wbn wcn wat wnu wmf) H) (hD : va_D A (wd_Mo_make w wm wi wo wh wd wp wb wc wl cB cI cJ win won whn wpl wdn wfo wmn wpn wbn wcn wat wnu wmf)) (hS : va_S A s.heap H locs) (hl : lv_has ls 2 [(0, .ref w), (1, .int x1)]) : W p l e rm_Mo_make s m args below meth c H locs 0 0 (MQ below (sQv (dC, dI) vwCl [(cB, .byte), (cI, .int), (cJ, .long)] A (wd_Mo_make w wm wi wo wh wd wp wb wc wl cB cI cJ win won whn wpl wdn wfo wmn_z wpn wbn wcn wat wnu wmf_z)) args s 0 0 A) (F0 m 0 ls []) := by
  obtain ⟨hx, hb, hml, hown, hts, hr, hlocks, hZ⟩ := id C
  unfold j_Mo_make_0 at hf
  refine lv_aload_n hx hb d_Mo_make_0 rfl (lv_at hl 0 rfl) ?_
  refine va_get (D := (dC, dI)) (ci := 7) (v := .int wmn) (C := R_Mo) (T := T_Mo) (N := 21) hx hb hts w_351 hown hK hP 0 rfl rfl 11 (by decide) (hts _ w_410) (fun _ h9 => h9) rfl d_Mo_make_1 ?_
  refine lv_sipush (v := 9000) hx hb d_Mo_make_4 (by decide) ?_
  refine lv_icmp_ge (tgt := 20) hx hb d_Mo_make_7 (by decide) (fun c_7 => ?_) (fun c_7 => ?_)
  · have hf := br_pos c_7 hf
    exact k_Mo_make_20 C hK hA win won whn wpl wdn wfo wmn wpn wbn wcn wat wnu wmf  hf hP hD hS (lv_sub hl [0] rfl)
  · have hf := br_neg c_7 hf
    refine lv_aload_n hx hb d_Mo_make_10 rfl (lv_at hl 0 rfl) ?_
    refine va_get (D := (dC, dI)) (ci := 7) (v := .ref wm) (C := R_Mo) (T := T_Mo) (N := 21) hx hb hts w_351 hown hK hP 0 rfl rfl 10 (by decide) (hts _ w_411) (fun _ h9 => h9) rfl d_Mo_make_11 ?_
    refine lv_aload_n hx hb d_Mo_make_14 rfl (lv_at hl 0 rfl) ?_
    refine va_get (D := (dC, dI)) (ci := 7) (v := .int wmn) (C := R_Mo) (T := T_Mo) (N := 21) hx hb hts w_351 hown hK hP 0 rfl rfl 11 (by decide) (hts _ w_410) (fun _ h9 => h9) rfl d_Mo_make_15 ?_
    refine lv_iload_n hx hb d_Mo_make_18 rfl (lv_at hl 1 rfl) ?_
    obtain ⟨h_in, hf⟩ := as_some hf
    refine va_iast hx hb hK hP hD hS 1 1 rfl rfl h_in d_Mo_make_19 (fun H locs hP hD hS => ?_)
    have hP : va_P (dC, dI) vwCl (wd_Mo_make w wm wi wo wh wd wp wb wc wl cB cI cJ win won whn wpl wdn wfo wmn wpn wbn wcn wat wnu (upd wmf wmn.toNatClampNeg x1)) H := hP
    have hD : va_D A (wd_Mo_make w wm wi wo wh wd wp wb wc wl cB cI cJ win won whn wpl wdn wfo wmn wpn wbn wcn wat wnu (upd wmf wmn.toNatClampNeg x1)) := hD
    exact k_Mo_make_20 C hK hA win won whn wpl wdn wfo wmn wpn wbn wcn wat wnu (upd wmf wmn.toNatClampNeg x1)  hf hP hD hS (lv_sub hl [0] rfl)
end
noncomputable abbrev f_Mo_make (x1 : Int32) (wmn : Int32) (wmf : Nat → Int32) : Option (Int32 × (Nat → Int32)) := j_Mo_make_0 x1 wmn wmf
set_option maxRecDepth 100000 in
theorem c_Mo_make (l : Launch) (dC : Nat → ClassId) (dI : Nat → Nat → Nat) (cB cI cJ : ClassId) (w wm wi wo wh wd wp wb wc wl : Nat) (win : Int32) (won : Int32) (whn : Int32) (wpl : Int32) (wdn : Int32) (wfo : Int32) (wmn : Int32) (wpn : Int32) (wbn : Int32) (wcn : Int32) (wat : Int32) (wnu : Int32) (wmf : Nat → Int32) (x1 : Int32) {wmn_z : Int32} {wmf_z : Nat → Int32} (hf : f_Mo_make x1 wmn wmf = some (wmn_z, wmf_z)) : MetV l y_Mo_make ws_Mo_make rm_Mo_make (dC, dI) vwCl [(cB, .byte), (cI, .int), (cJ, .long)] [.ref w, .int x1] (wd_Mo_make w wm wi wo wh wd wp wb wc wl cB cI cJ win won whn wpl wdn wfo wmn wpn wbn wcn wat wnu wmf)  (wd_Mo_make w wm wi wo wh wd wp wb wc wl cB cI cJ win won whn wpl wdn wfo wmn_z wpn wbn wcn wat wnu wmf_z) 0 0 :=
  s_ofv (bytes := cd_Mo_make) (maxL := 2) (ret := none) (by decide) rfl (Nat.le_of_ble_eq_true rfl) (fun p e s m below meth c A ls C hK hA hP hD hS hl => k_Mo_make_0 C hK hA x1 win won whn wpl wdn wfo wmn wpn wbn wcn wat wnu wmf hf hP hD hS (lv_sub hl [0, 1] rfl))

abbrev wd_Mo_makeNumber (w wm wi wo wh wd wp wb wc wl : Nat) (cB cI cJ : ClassId) (win : Int32) (won : Int32) (whn : Int32) (wpl : Int32) (wdn : Int32) (wfo : Int32) (wmn : Int32) (wpn : Int32) (wbn : Int32) (wcn : Int32) (wat : Int32) (wnu : Int32) (wmf : Nat → Int32) : va_W := [(w, .inr (7, [.ref wi, .ref wo, .ref wh, .int win, .int won, .int whn, .int wpl, .ref wd, .int wdn, .int wfo, .ref wm, .int wmn, .ref wp, .int wpn, .ref wb, .int wbn, .ref wc, .int wcn, .ref wl, .int wat, .int wnu])), (wm, .inl (cI, 9000, .inl wmf))]
abbrev rm_Mo_makeNumber : Room := { frames := 1, cells := 0, slots := 0, locals := 21 }
section
variable {p : Program} {l : Launch} {e : Env} {s : State} {m : MethodId} {args : Array Value} {below : List Frame} {meth : Method} {c : Code} {dC : Nat → ClassId} {dI : Nat → Nat → Nat} {A : Nat → Prop} {cB cI cJ : ClassId} {H : Heap} {locs : List Loc} {ls : Array Slot} {N : Nat} {w wm wi wo wh wd wp wb wc wl : Nat}
noncomputable def b_Mo_makeNumber_3 (x1 : Int64) (x3 : Int32)  (kh3 : Int32 → Int32 → (Nat → Int32) → Option (Int32 × (Nat → Int32))) (x4 : Int32) (wmn : Int32) (wmf : Nat → Int32) : Option (Int32 × (Nat → Int32)) :=
  (if x3 ≤ x4 then (some (wmn, wmf) : Option (Int32 × (Nat → Int32))) else bd2 (f_Mo_make (((sr64 x1 ((8 : Int32) * x4)) &&& (255 : Int64)).toInt32) wmn wmf) (fun wmn_22 wmf_22 => (kh3 (x4 + 1) wmn_22 wmf_22)))
set_option maxHeartbeats 4000000 in
set_option maxRecDepth 100000 in
theorem k_Mo_makeNumber_3 {wmn_z : Int32} {wmf_z : Nat → Int32} (C : Fx p s m args meth c cd_Mo_makeNumber 5 R_Mo lw_g none) (hK : va_K (dC, dI) vwCl [(cB, .byte), (cI, .int), (cJ, .long)] s) (hA : ∀ q, s.heap.size ≤ q → A q) (x1 : Int64) (x3 : Int32) (win : Int32) (won : Int32) (whn : Int32) (wpl : Int32) (wdn : Int32) (wfo : Int32) (wpn : Int32) (wbn : Int32) (wcn : Int32) (wat : Int32) (wnu : Int32)  : ∀ (n : Nat) (x4 : Int32) (wmn : Int32) (wmf : Nat → Int32), loop3 (b_Mo_makeNumber_3 x1 x3 ) n x4 wmn wmf = some (wmn_z, wmf_z) → ∀ (H : Heap) (locs : List Loc), va_P (dC, dI) vwCl (wd_Mo_makeNumber w wm wi wo wh wd wp wb wc wl cB cI cJ win won whn wpl wdn wfo wmn wpn wbn wcn wat wnu wmf) H → va_D A (wd_Mo_makeNumber w wm wi wo wh wd wp wb wc wl cB cI cJ win won whn wpl wdn wfo wmn wpn wbn wcn wat wnu wmf) → va_S A s.heap H locs → ∀ (ls : Array Slot), lv_has ls 5 [(0, .ref w), (1, .long x1), (3, .int x3), (4, .int x4)] → W p l e rm_Mo_makeNumber s m args below meth c H locs 0 0 (MQ below (sQv (dC, dI) vwCl [(cB, .byte), (cI, .int), (cJ, .long)] A (wd_Mo_makeNumber w wm wi wo wh wd wp wb wc wl cB cI cJ win won whn wpl wdn wfo wmn_z wpn wbn wcn wat wnu wmf_z)) args s 0 0 A) (F0 m 3 ls []) := by
  obtain ⟨hx, hb, hml, hown, hts, hr, hlocks, hZ⟩ := id C
  intro n
  induction n with
  | zero => intro x4 wmn wmf hf; cases hf
  | succ n ih3 =>
    intro x4 wmn wmf hf H locs hP hD hS ls hl
    have hf : b_Mo_makeNumber_3 x1 x3  (loop3 (b_Mo_makeNumber_3 x1 x3 ) n) x4 wmn wmf = some (wmn_z, wmf_z) := hf
    generalize loop3 (b_Mo_makeNumber_3 x1 x3 ) n = kh3 at hf ih3
    unfold b_Mo_makeNumber_3 at hf
    refine lv_iload hx hb d_Mo_makeNumber_3 (lv_at hl 3 rfl) ?_
    refine lv_iload_n hx hb d_Mo_makeNumber_5 rfl (lv_at hl 2 rfl) ?_
    refine lv_icmp_ge (tgt := 31) hx hb d_Mo_makeNumber_6 (by decide) (fun c_6 => ?_) (fun c_6 => ?_)
    · have hf := br_pos c_6 hf
      cases hf
      exact s_vret hx hb hr hlocks hP hK hD hS d_Mo_makeNumber_31
    · have hf := br_neg c_6 hf
      refine lv_aload_n hx hb d_Mo_makeNumber_9 rfl (lv_at hl 0 rfl) ?_
      refine lv_lload_n hx hb d_Mo_makeNumber_10 rfl (lv_at hl 1 rfl) ?_
      refine lv_bipush (v := 8) hx hb d_Mo_makeNumber_11 (by decide) ?_
      refine lv_iload hx hb d_Mo_makeNumber_13 (lv_at hl 3 rfl) ?_
      refine lv_imul hx hb d_Mo_makeNumber_15 ?_
      refine lv_lshr (v := (sr64 x1 ((8 : Int32) * x4))) hx hb d_Mo_makeNumber_16 rfl ?_
      refine lv_ldc2 (v := 255) hx hb hown (hts _ w_412) d_Mo_makeNumber_17 ?_
      refine lv_land hx hb d_Mo_makeNumber_20 ?_
      refine lv_l2i (v := (((sr64 x1 ((8 : Int32) * x4)) &&& (255 : Int64)).toInt32)) hx hb d_Mo_makeNumber_21 rfl ?_
      obtain ⟨wmn_22, wmf_22, hc22, hf⟩ := bd2_some hf
      refine s_Vv (As := [.int (((sr64 x1 ((8 : Int32) * x4)) &&& (255 : Int64)).toInt32)]) (rest := []) (wr := []) (ws' := wd_Mo_makeNumber w wm wi wo wh wd wp wb wc wl cB cI cJ win won whn wpl wdn wfo wmn_22 wpn wbn wcn wat wnu wmf_22) C.call (c_Mo_make l dC dI cB cI cJ w wm wi wo wh wd wp wb wc wl  win won whn wpl wdn wfo wmn wpn wbn wcn wat wnu wmf (((sr64 x1 ((8 : Int32) * x4)) &&& (255 : Int64)).toInt32) hc22) (cwV 1 hts (gd_V w_413 w_414 w_415 w_357 w_416) rfl rfl rfl ⟨rfl, hd_Mo_make⟩ ⟨Nat.le_of_ble_eq_true rfl, Nat.le_of_ble_eq_true rfl⟩) rfl hl.1 rfl (Nat.le_of_ble_eq_true rfl) d_Mo_makeNumber_22 ⟨Nat.le_of_ble_eq_true rfl, Nat.le_of_ble_eq_true rfl⟩ hZ hK hP hD hS hA 7 0 rfl rfl [0, 1] [] [0, 1] rfl rfl rfl rfl (by decide) rfl rfl (fun H locs hP hD hS => ?_)
      refine lv_iinc (v := (x4 + 1)) (lv' := [(4, .int (x4 + 1)), (0, .ref w), (1, .long x1), (3, .int x3)]) hx hb d_Mo_makeNumber_25 hl (k := 3) rfl (congrArg (fun z => x4 + z) (by decide)) (by decide) rfl (fun ls hl => ?_)
      refine lv_goto (tgt := 3) hx hb d_Mo_makeNumber_28 (by decide) ?_
      exact ih3 (x4 + 1) wmn_22 wmf_22 hf _ _ hP hD hS _ (lv_sub hl [1, 2, 3, 0] rfl)
noncomputable def j_Mo_makeNumber_0 (N : Nat) (x1 : Int64) (x3 : Int32) (wmn : Int32) (wmf : Nat → Int32)  : Option (Int32 × (Nat → Int32)) :=
  (loop3 (b_Mo_makeNumber_3 x1 x3 ) N (0 : Int32) wmn wmf)
set_option maxHeartbeats 4000000 in
set_option maxRecDepth 100000 in
theorem k_Mo_makeNumber_0 {wmn_z : Int32} {wmf_z : Nat → Int32} (C : Fx p s m args meth c cd_Mo_makeNumber 5 R_Mo lw_g none) (hK : va_K (dC, dI) vwCl [(cB, .byte), (cI, .int), (cJ, .long)] s) (hA : ∀ q, s.heap.size ≤ q → A q) (x1 : Int64) (x3 : Int32) (win : Int32) (won : Int32) (whn : Int32) (wpl : Int32) (wdn : Int32) (wfo : Int32) (wmn : Int32) (wpn : Int32) (wbn : Int32) (wcn : Int32) (wat : Int32) (wnu : Int32) (wmf : Nat → Int32)  (hf : j_Mo_makeNumber_0 N x1 x3 wmn wmf  = some (wmn_z, wmf_z)) (hP : va_P (dC, dI) vwCl (wd_Mo_makeNumber w wm wi wo wh wd wp wb wc wl cB cI cJ win won whn wpl wdn wfo wmn wpn wbn wcn wat wnu wmf) H) (hD : va_D A (wd_Mo_makeNumber w wm wi wo wh wd wp wb wc wl cB cI cJ win won whn wpl wdn wfo wmn wpn wbn wcn wat wnu wmf)) (hS : va_S A s.heap H locs) (hl : lv_has ls 5 [(0, .ref w), (1, .long x1), (3, .int x3)]) : W p l e rm_Mo_makeNumber s m args below meth c H locs 0 0 (MQ below (sQv (dC, dI) vwCl [(cB, .byte), (cI, .int), (cJ, .long)] A (wd_Mo_makeNumber w wm wi wo wh wd wp wb wc wl cB cI cJ win won whn wpl wdn wfo wmn_z wpn wbn wcn wat wnu wmf_z)) args s 0 0 A) (F0 m 0 ls []) := by
  obtain ⟨hx, hb, hml, hown, hts, hr, hlocks, hZ⟩ := id C
  unfold j_Mo_makeNumber_0 at hf
  refine lv_iconst (v := 0) hx hb d_Mo_makeNumber_0 (by decide) ?_
  refine lv_istore (lv' := [(4, .int (0 : Int32)), (0, .ref w), (1, .long x1), (3, .int x3)]) hx hb d_Mo_makeNumber_1 hl (by decide) rfl (fun ls hl => ?_)
  exact k_Mo_makeNumber_3 C hK hA x1 x3 win won whn wpl wdn wfo wpn wbn wcn wat wnu  N (0 : Int32) wmn wmf hf _ _ hP hD hS _ (lv_sub hl [1, 2, 3, 0] rfl)
end
noncomputable abbrev f_Mo_makeNumber (N : Nat) (x1 : Int64) (x3 : Int32) (wmn : Int32) (wmf : Nat → Int32) : Option (Int32 × (Nat → Int32)) := j_Mo_makeNumber_0 N x1 x3 wmn wmf
set_option maxRecDepth 100000 in
theorem c_Mo_makeNumber {N : Nat} (l : Launch) (dC : Nat → ClassId) (dI : Nat → Nat → Nat) (cB cI cJ : ClassId) (w wm wi wo wh wd wp wb wc wl : Nat) (win : Int32) (won : Int32) (whn : Int32) (wpl : Int32) (wdn : Int32) (wfo : Int32) (wmn : Int32) (wpn : Int32) (wbn : Int32) (wcn : Int32) (wat : Int32) (wnu : Int32) (wmf : Nat → Int32) (x1 : Int64) (x3 : Int32) {wmn_z : Int32} {wmf_z : Nat → Int32} (hf : f_Mo_makeNumber N x1 x3 wmn wmf = some (wmn_z, wmf_z)) : MetV l y_Mo_makeNumber ws_Mo_makeNumber rm_Mo_makeNumber (dC, dI) vwCl [(cB, .byte), (cI, .int), (cJ, .long)] [.ref w, .long x1, .int x3] (wd_Mo_makeNumber w wm wi wo wh wd wp wb wc wl cB cI cJ win won whn wpl wdn wfo wmn wpn wbn wcn wat wnu wmf)  (wd_Mo_makeNumber w wm wi wo wh wd wp wb wc wl cB cI cJ win won whn wpl wdn wfo wmn_z wpn wbn wcn wat wnu wmf_z) 0 0 :=
  s_ofv (bytes := cd_Mo_makeNumber) (maxL := 5) (ret := none) (by decide) rfl (Nat.le_of_ble_eq_true rfl) (fun p e s m below meth c A ls C hK hA hP hD hS hl => k_Mo_makeNumber_0 C hK hA x1 x3 win won whn wpl wdn wfo wmn wpn wbn wcn wat wnu wmf hf hP hD hS (lv_sub hl [0, 1, 2] rfl))

abbrev wd_Mo_times (cB cI cJ : ClassId) : va_W := []
abbrev rm_Mo_times : Room := { frames := 0, cells := 0, slots := 0, locals := 0 }
section
variable {p : Program} {l : Launch} {e : Env} {s : State} {m : MethodId} {args : Array Value} {below : List Frame} {meth : Method} {c : Code} {dC : Nat → ClassId} {dI : Nat → Nat → Nat} {A : Nat → Prop} {cB cI cJ : ClassId} {H : Heap} {locs : List Loc} {ls : Array Slot} {N : Nat} 
noncomputable def j_Mo_times_0 (x0 : Int64) (x2 : Int64)  : Option (Int64) :=
  (some ((x0 * x2) &&& (4294967295 : Int64)) : Option (Int64))
set_option maxHeartbeats 4000000 in
set_option maxRecDepth 100000 in
theorem k_Mo_times_0 {r_z : Int64} (C : Fx p s m args meth c cd_Mo_times 4 R_Mo lw_g (some .long)) (hK : va_K (dC, dI) vwCl [(cB, .byte), (cI, .int), (cJ, .long)] s) (hA : ∀ q, s.heap.size ≤ q → A q) (x0 : Int64) (x2 : Int64)  (hf : j_Mo_times_0 x0 x2  = some r_z) (hP : va_P (dC, dI) vwCl (wd_Mo_times cB cI cJ) H) (hD : va_D A (wd_Mo_times cB cI cJ)) (hS : va_S A s.heap H locs) (hl : lv_has ls 4 [(0, .long x0), (2, .long x2)]) : W p l e rm_Mo_times s m args below meth c H locs 0 0 (MQ below (sQl (dC, dI) vwCl [(cB, .byte), (cI, .int), (cJ, .long)] A r_z (wd_Mo_times cB cI cJ)) args s 0 0 A) (F0 m 0 ls []) := by
  obtain ⟨hx, hb, hml, hown, hts, hr, hlocks, hZ⟩ := id C
  unfold j_Mo_times_0 at hf
  refine lv_lload_n hx hb d_Mo_times_0 rfl (lv_at hl 0 rfl) ?_
  refine lv_lload_n hx hb d_Mo_times_1 rfl (lv_at hl 1 rfl) ?_
  refine lv_lmul hx hb d_Mo_times_2 ?_
  refine lv_ldc2 (v := 4294967295) hx hb hown (hts _ w_417) d_Mo_times_3 ?_
  refine lv_land hx hb d_Mo_times_6 ?_
  cases hf
  exact s_lret hx hb hr hlocks hP hK hD hS d_Mo_times_7
end
noncomputable abbrev f_Mo_times (x0 : Int64) (x2 : Int64) : Option (Int64) := j_Mo_times_0 x0 x2
set_option maxRecDepth 100000 in
theorem c_Mo_times (l : Launch) (dC : Nat → ClassId) (dI : Nat → Nat → Nat) (cB cI cJ : ClassId)   (x0 : Int64) (x2 : Int64) {r_z : Int64} (hf : f_Mo_times x0 x2 = some r_z) : MetL l y_Mo_times ws_Mo_times rm_Mo_times (dC, dI) vwCl [(cB, .byte), (cI, .int), (cJ, .long)] [.long x0, .long x2] (wd_Mo_times cB cI cJ) r_z (wd_Mo_times cB cI cJ) 0 0 :=
  s_ofl (bytes := cd_Mo_times) (maxL := 4) (ret := (some .long)) (by decide) rfl (Nat.le_of_ble_eq_true rfl) (fun p e s m below meth c A ls C hK hA hP hD hS hl => k_Mo_times_0 C hK hA x0 x2 hf hP hD hS (lv_sub hl [0, 1] rfl))

abbrev wd_Mo_turned (cB cI cJ : ClassId) : va_W := []
abbrev rm_Mo_turned : Room := { frames := 0, cells := 0, slots := 0, locals := 0 }
section
variable {p : Program} {l : Launch} {e : Env} {s : State} {m : MethodId} {args : Array Value} {below : List Frame} {meth : Method} {c : Code} {dC : Nat → ClassId} {dI : Nat → Nat → Nat} {A : Nat → Prop} {cB cI cJ : ClassId} {H : Heap} {locs : List Loc} {ls : Array Slot} {N : Nat} 
noncomputable def j_Mo_turned_0 (x0 : Int64) (x2 : Int32)  : Option (Int64) :=
  (some (((sl64 x0 x2) ||| (sr64 x0 ((32 : Int32) - x2))) &&& (4294967295 : Int64)) : Option (Int64))
set_option maxHeartbeats 4000000 in
set_option maxRecDepth 100000 in
theorem k_Mo_turned_0 {r_z : Int64} (C : Fx p s m args meth c cd_Mo_turned 3 R_Mo lw_g (some .long)) (hK : va_K (dC, dI) vwCl [(cB, .byte), (cI, .int), (cJ, .long)] s) (hA : ∀ q, s.heap.size ≤ q → A q) (x0 : Int64) (x2 : Int32)  (hf : j_Mo_turned_0 x0 x2  = some r_z) (hP : va_P (dC, dI) vwCl (wd_Mo_turned cB cI cJ) H) (hD : va_D A (wd_Mo_turned cB cI cJ)) (hS : va_S A s.heap H locs) (hl : lv_has ls 3 [(0, .long x0), (2, .int x2)]) : W p l e rm_Mo_turned s m args below meth c H locs 0 0 (MQ below (sQl (dC, dI) vwCl [(cB, .byte), (cI, .int), (cJ, .long)] A r_z (wd_Mo_turned cB cI cJ)) args s 0 0 A) (F0 m 0 ls []) := by
  obtain ⟨hx, hb, hml, hown, hts, hr, hlocks, hZ⟩ := id C
  unfold j_Mo_turned_0 at hf
  refine lv_lload_n hx hb d_Mo_turned_0 rfl (lv_at hl 0 rfl) ?_
  refine lv_iload_n hx hb d_Mo_turned_1 rfl (lv_at hl 1 rfl) ?_
  refine lv_lshl (v := (sl64 x0 x2)) hx hb d_Mo_turned_2 rfl ?_
  refine lv_lload_n hx hb d_Mo_turned_3 rfl (lv_at hl 0 rfl) ?_
  refine lv_bipush (v := 32) hx hb d_Mo_turned_4 (by decide) ?_
  refine lv_iload_n hx hb d_Mo_turned_6 rfl (lv_at hl 1 rfl) ?_
  refine lv_isub hx hb d_Mo_turned_7 ?_
  refine lv_lshr (v := (sr64 x0 ((32 : Int32) - x2))) hx hb d_Mo_turned_8 rfl ?_
  refine lv_lor hx hb d_Mo_turned_9 ?_
  refine lv_ldc2 (v := 4294967295) hx hb hown (hts _ w_417) d_Mo_turned_10 ?_
  refine lv_land hx hb d_Mo_turned_13 ?_
  cases hf
  exact s_lret hx hb hr hlocks hP hK hD hS d_Mo_turned_14
end
noncomputable abbrev f_Mo_turned (x0 : Int64) (x2 : Int32) : Option (Int64) := j_Mo_turned_0 x0 x2
set_option maxRecDepth 100000 in
theorem c_Mo_turned (l : Launch) (dC : Nat → ClassId) (dI : Nat → Nat → Nat) (cB cI cJ : ClassId)   (x0 : Int64) (x2 : Int32) {r_z : Int64} (hf : f_Mo_turned x0 x2 = some r_z) : MetL l y_Mo_turned ws_Mo_turned rm_Mo_turned (dC, dI) vwCl [(cB, .byte), (cI, .int), (cJ, .long)] [.long x0, .int x2] (wd_Mo_turned cB cI cJ) r_z (wd_Mo_turned cB cI cJ) 0 0 :=
  s_ofl (bytes := cd_Mo_turned) (maxL := 3) (ret := (some .long)) (by decide) rfl (Nat.le_of_ble_eq_true rfl) (fun p e s m below meth c A ls C hK hA hP hD hS hl => k_Mo_turned_0 C hK hA x0 x2 hf hP hD hS (lv_sub hl [0, 1] rfl))

abbrev wd_Mo_word (a : Nat) (cB cI cJ : ClassId) (aL : Nat) (af : Nat → Int32) : va_W := [(a, .inl (cI, aL, .inl af))]
abbrev rm_Mo_word : Room := { frames := 0, cells := 0, slots := 0, locals := 0 }
section
variable {p : Program} {l : Launch} {e : Env} {s : State} {m : MethodId} {args : Array Value} {below : List Frame} {meth : Method} {c : Code} {dC : Nat → ClassId} {dI : Nat → Nat → Nat} {A : Nat → Prop} {cB cI cJ : ClassId} {H : Heap} {locs : List Loc} {ls : Array Slot} {N : Nat} {a aL : Nat}
noncomputable def j_Mo_word_0 (aL : Nat) (x1 : Int32) (af : Nat → Int32)  : Option (Int64) :=
  as_ (vp_in x1 aL) (as_ (vp_in (x1 + (1 : Int32)) aL) (as_ (vp_in (x1 + (2 : Int32)) aL) (as_ (vp_in (x1 + (3 : Int32)) aL) ((some (((((af x1.toNatClampNeg).toInt64) ||| (sl64 ((af (x1 + (1 : Int32)).toNatClampNeg).toInt64) (8 : Int32))) ||| (sl64 ((af (x1 + (2 : Int32)).toNatClampNeg).toInt64) (16 : Int32))) ||| (sl64 ((af (x1 + (3 : Int32)).toNatClampNeg).toInt64) (24 : Int32))) : Option (Int64))))))
set_option maxHeartbeats 4000000 in
set_option maxRecDepth 100000 in
theorem k_Mo_word_0 {r_z : Int64} (C : Fx p s m args meth c cd_Mo_word 2 R_Mo lw_g (some .long)) (hK : va_K (dC, dI) vwCl [(cB, .byte), (cI, .int), (cJ, .long)] s) (hA : ∀ q, s.heap.size ≤ q → A q) (x1 : Int32) (af : Nat → Int32)  (hf : j_Mo_word_0 aL x1 af  = some r_z) (hP : va_P (dC, dI) vwCl (wd_Mo_word a cB cI cJ aL af) H) (hD : va_D A (wd_Mo_word a cB cI cJ aL af)) (hS : va_S A s.heap H locs) (hl : lv_has ls 2 [(0, .ref a), (1, .int x1)]) : W p l e rm_Mo_word s m args below meth c H locs 0 0 (MQ below (sQl (dC, dI) vwCl [(cB, .byte), (cI, .int), (cJ, .long)] A r_z (wd_Mo_word a cB cI cJ aL af)) args s 0 0 A) (F0 m 0 ls []) := by
  obtain ⟨hx, hb, hml, hown, hts, hr, hlocks, hZ⟩ := id C
  unfold j_Mo_word_0 at hf
  refine lv_aload_n hx hb d_Mo_word_0 rfl (lv_at hl 0 rfl) ?_
  refine lv_iload_n hx hb d_Mo_word_1 rfl (lv_at hl 1 rfl) ?_
  obtain ⟨h_in, hf⟩ := as_some hf
  refine va_iald hx hb hK hP 0 1 rfl rfl h_in d_Mo_word_2 ?_
  refine lv_i2l (v := ((af x1.toNatClampNeg).toInt64)) hx hb d_Mo_word_3 rfl ?_
  refine lv_aload_n hx hb d_Mo_word_4 rfl (lv_at hl 0 rfl) ?_
  refine lv_iload_n hx hb d_Mo_word_5 rfl (lv_at hl 1 rfl) ?_
  refine lv_iconst (v := 1) hx hb d_Mo_word_6 (by decide) ?_
  refine lv_iadd hx hb d_Mo_word_7 ?_
  obtain ⟨h_in, hf⟩ := as_some hf
  refine va_iald hx hb hK hP 0 1 rfl rfl h_in d_Mo_word_8 ?_
  refine lv_i2l (v := ((af (x1 + (1 : Int32)).toNatClampNeg).toInt64)) hx hb d_Mo_word_9 rfl ?_
  refine lv_bipush (v := 8) hx hb d_Mo_word_10 (by decide) ?_
  refine lv_lshl (v := (sl64 ((af (x1 + (1 : Int32)).toNatClampNeg).toInt64) (8 : Int32))) hx hb d_Mo_word_12 rfl ?_
  refine lv_lor hx hb d_Mo_word_13 ?_
  refine lv_aload_n hx hb d_Mo_word_14 rfl (lv_at hl 0 rfl) ?_
  refine lv_iload_n hx hb d_Mo_word_15 rfl (lv_at hl 1 rfl) ?_
  refine lv_iconst (v := 2) hx hb d_Mo_word_16 (by decide) ?_
  refine lv_iadd hx hb d_Mo_word_17 ?_
  obtain ⟨h_in, hf⟩ := as_some hf
  refine va_iald hx hb hK hP 0 1 rfl rfl h_in d_Mo_word_18 ?_
  refine lv_i2l (v := ((af (x1 + (2 : Int32)).toNatClampNeg).toInt64)) hx hb d_Mo_word_19 rfl ?_
  refine lv_bipush (v := 16) hx hb d_Mo_word_20 (by decide) ?_
  refine lv_lshl (v := (sl64 ((af (x1 + (2 : Int32)).toNatClampNeg).toInt64) (16 : Int32))) hx hb d_Mo_word_22 rfl ?_
  refine lv_lor hx hb d_Mo_word_23 ?_
  refine lv_aload_n hx hb d_Mo_word_24 rfl (lv_at hl 0 rfl) ?_
  refine lv_iload_n hx hb d_Mo_word_25 rfl (lv_at hl 1 rfl) ?_
  refine lv_iconst (v := 3) hx hb d_Mo_word_26 (by decide) ?_
  refine lv_iadd hx hb d_Mo_word_27 ?_
  obtain ⟨h_in, hf⟩ := as_some hf
  refine va_iald hx hb hK hP 0 1 rfl rfl h_in d_Mo_word_28 ?_
  refine lv_i2l (v := ((af (x1 + (3 : Int32)).toNatClampNeg).toInt64)) hx hb d_Mo_word_29 rfl ?_
  refine lv_bipush (v := 24) hx hb d_Mo_word_30 (by decide) ?_
  refine lv_lshl (v := (sl64 ((af (x1 + (3 : Int32)).toNatClampNeg).toInt64) (24 : Int32))) hx hb d_Mo_word_32 rfl ?_
  refine lv_lor hx hb d_Mo_word_33 ?_
  cases hf
  exact s_lret hx hb hr hlocks hP hK hD hS d_Mo_word_34
end
noncomputable abbrev f_Mo_word (aL : Nat) (x1 : Int32) (af : Nat → Int32) : Option (Int64) := j_Mo_word_0 aL x1 af
set_option maxRecDepth 100000 in
theorem c_Mo_word (l : Launch) (dC : Nat → ClassId) (dI : Nat → Nat → Nat) (cB cI cJ : ClassId) (a aL : Nat) (af : Nat → Int32) (x1 : Int32) {r_z : Int64} (hf : f_Mo_word aL x1 af = some r_z) : MetL l y_Mo_word ws_Mo_word rm_Mo_word (dC, dI) vwCl [(cB, .byte), (cI, .int), (cJ, .long)] [.ref a, .int x1] (wd_Mo_word a cB cI cJ aL af) r_z (wd_Mo_word a cB cI cJ aL af) 0 0 :=
  s_ofl (bytes := cd_Mo_word) (maxL := 2) (ret := (some .long)) (by decide) rfl (Nat.le_of_ble_eq_true rfl) (fun p e s m below meth c A ls C hK hA hP hD hS hl => k_Mo_word_0 C hK hA x1 af hf hP hD hS (lv_sub hl [0, 1] rfl))

abbrev wd_Mo_sumOf (w wl a wi wo wh wd wm wp wb wc : Nat) (cB cI cJ : ClassId) (aL : Nat) (win : Int32) (won : Int32) (whn : Int32) (wpl : Int32) (wdn : Int32) (wfo : Int32) (wmn : Int32) (wpn : Int32) (wbn : Int32) (wcn : Int32) (wat : Int32) (wnu : Int32) (wlf : Nat → Int64) (af : Nat → Int32) : va_W := [(w, .inr (7, [.ref wi, .ref wo, .ref wh, .int win, .int won, .int whn, .int wpl, .ref wd, .int wdn, .int wfo, .ref wm, .int wmn, .ref wp, .int wpn, .ref wb, .int wbn, .ref wc, .int wcn, .ref wl, .int wat, .int wnu])), (wl, .inl (cJ, 4, .inr (.inl wlf))), (a, .inl (cI, aL, .inl af))]
abbrev rm_Mo_sumOf : Room := { frames := 1, cells := 0, slots := 0, locals := 23 }
section
variable {p : Program} {l : Launch} {e : Env} {s : State} {m : MethodId} {args : Array Value} {below : List Frame} {meth : Method} {c : Code} {dC : Nat → ClassId} {dI : Nat → Nat → Nat} {A : Nat → Prop} {cB cI cJ : ClassId} {H : Heap} {locs : List Loc} {ls : Array Slot} {N : Nat} {w wl a wi wo wh wd wm wp wb wc aL : Nat}
noncomputable def b_Mo_sumOf_266 (aL : Nat) (x3 : Int32) (x4 : Int64) (x6 : Int64) (x8 : Int64) (x12 : Int64) (wlf : Nat → Int64) (af : Nat → Int32)  (kh266 : Int32 → Int64 → Option (Int64 × (Nat → Int64))) (x15 : Int32) (x16 : Int64) : Option (Int64 × (Nat → Int64)) :=
  (if x3 ≤ x15 then bd1 (f_Mo_times (x16 ^^^ (sr64 x16 (15 : Int32))) x6) (fun r317 => bd1 (f_Mo_times (r317 ^^^ (sr64 r317 (13 : Int32))) x8) (fun r332 => (some ((r332 ^^^ (sr64 r332 (16 : Int32))), wlf) : Option (Int64 × (Nat → Int64))))) else as_ (vp_in x15 aL) (bd1 (f_Mo_times ((af x15.toNatClampNeg).toInt64) x12) (fun r281 => bd1 (f_Mo_turned ((x16 + r281) &&& (4294967295 : Int64)) (11 : Int32)) (fun r291 => bd1 (f_Mo_times r291 x4) (fun r296 => (kh266 (x15 + 1) r296))))))
set_option maxHeartbeats 4000000 in
set_option maxRecDepth 100000 in
theorem k_Mo_sumOf_266 {r_z : Int64} {wlf_z : Nat → Int64} (C : Fx p s m args meth c cd_Mo_sumOf 19 R_Mo lw_g (some .long)) (hK : va_K (dC, dI) vwCl [(cB, .byte), (cI, .int), (cJ, .long)] s) (hA : ∀ q, s.heap.size ≤ q → A q) (x3 : Int32) (x4 : Int64) (x6 : Int64) (x8 : Int64) (x12 : Int64) (win : Int32) (won : Int32) (whn : Int32) (wpl : Int32) (wdn : Int32) (wfo : Int32) (wmn : Int32) (wpn : Int32) (wbn : Int32) (wcn : Int32) (wat : Int32) (wnu : Int32) (wlf : Nat → Int64) (af : Nat → Int32)  : ∀ (n : Nat) (x15 : Int32) (x16 : Int64), loop2 (b_Mo_sumOf_266 aL x3 x4 x6 x8 x12 wlf af ) n x15 x16 = some (r_z, wlf_z) → ∀ (H : Heap) (locs : List Loc), va_P (dC, dI) vwCl (wd_Mo_sumOf w wl a wi wo wh wd wm wp wb wc cB cI cJ aL win won whn wpl wdn wfo wmn wpn wbn wcn wat wnu wlf af) H → va_D A (wd_Mo_sumOf w wl a wi wo wh wd wm wp wb wc cB cI cJ aL win won whn wpl wdn wfo wmn wpn wbn wcn wat wnu wlf af) → va_S A s.heap H locs → ∀ (ls : Array Slot), lv_has ls 19 [(1, .ref a), (3, .int x3), (4, .long x4), (6, .long x6), (8, .long x8), (12, .long x12), (15, .int x15), (16, .long x16)] → W p l e rm_Mo_sumOf s m args below meth c H locs 0 0 (MQ below (sQl (dC, dI) vwCl [(cB, .byte), (cI, .int), (cJ, .long)] A r_z (wd_Mo_sumOf w wl a wi wo wh wd wm wp wb wc cB cI cJ aL win won whn wpl wdn wfo wmn wpn wbn wcn wat wnu wlf_z af)) args s 0 0 A) (F0 m 266 ls []) := by
  obtain ⟨hx, hb, hml, hown, hts, hr, hlocks, hZ⟩ := id C
  intro n
  induction n with
  | zero => intro x15 x16 hf; cases hf
  | succ n ih266 =>
    intro x15 x16 hf H locs hP hD hS ls hl
    have hf : b_Mo_sumOf_266 aL x3 x4 x6 x8 x12 wlf af  (loop2 (b_Mo_sumOf_266 aL x3 x4 x6 x8 x12 wlf af ) n) x15 x16 = some (r_z, wlf_z) := hf
    generalize loop2 (b_Mo_sumOf_266 aL x3 x4 x6 x8 x12 wlf af ) n = kh266 at hf ih266
    unfold b_Mo_sumOf_266 at hf
    refine lv_iload hx hb d_Mo_sumOf_266 (lv_at hl 6 rfl) ?_
    refine lv_iload_n hx hb d_Mo_sumOf_268 rfl (lv_at hl 1 rfl) ?_
    refine lv_icmp_ge (tgt := 307) hx hb d_Mo_sumOf_269 (by decide) (fun c_269 => ?_) (fun c_269 => ?_)
    · have hf := br_pos c_269 hf
      refine lv_lload hx hb d_Mo_sumOf_307 (lv_at hl 7 rfl) ?_
      refine lv_lload hx hb d_Mo_sumOf_309 (lv_at hl 7 rfl) ?_
      refine lv_bipush (v := 15) hx hb d_Mo_sumOf_311 (by decide) ?_
      refine lv_lshr (v := (sr64 x16 (15 : Int32))) hx hb d_Mo_sumOf_313 rfl ?_
      refine lv_lxor hx hb d_Mo_sumOf_314 ?_
      refine lv_lload hx hb d_Mo_sumOf_315 (lv_at hl 3 rfl) ?_
      obtain ⟨r317, hc317, hf⟩ := bd1_some hf
      refine s_Sl (As := [.long (x16 ^^^ (sr64 x16 (15 : Int32))), .long x6]) (rest := []) (wr := [(w, .inr (7, [.ref wi, .ref wo, .ref wh, .int win, .int won, .int whn, .int wpl, .ref wd, .int wdn, .int wfo, .ref wm, .int wmn, .ref wp, .int wpn, .ref wb, .int wbn, .ref wc, .int wcn, .ref wl, .int wat, .int wnu])), (wl, .inl (cJ, 4, .inr (.inl wlf))), (a, .inl (cI, aL, .inl af))]) (ws' := wd_Mo_sumOf w wl a wi wo wh wd wm wp wb wc cB cI cJ aL win won whn wpl wdn wfo wmn wpn wbn wcn wat wnu wlf af) C.call (c_Mo_times l dC dI cB cI cJ    (x16 ^^^ (sr64 x16 (15 : Int32))) x6 hc317) (va_cwS 2 hts (gd_S w_423 w_424 w_357 w_425) rfl rfl rfl hd_Mo_times ⟨Nat.le_of_ble_eq_true rfl, Nat.le_of_ble_eq_true rfl⟩) rfl hl.1 rfl (Nat.le_of_ble_eq_true rfl) d_Mo_sumOf_317 ⟨Nat.le_of_ble_eq_true rfl, Nat.le_of_ble_eq_true rfl⟩ hZ hK hP hD hS hA [] [0, 1, 2] [0, 1, 2] rfl rfl rfl rfl (by decide) rfl rfl (fun H locs hP hD hS => ?_)
      refine lv_lstore (lv' := [(16, .long r317), (1, .ref a), (3, .int x3), (4, .long x4), (6, .long x6), (8, .long x8), (12, .long x12), (15, .int x15)]) hx hb d_Mo_sumOf_320 hl (by decide) rfl (fun ls hl => ?_)
      refine lv_lload hx hb d_Mo_sumOf_322 (lv_at hl 0 rfl) ?_
      refine lv_lload hx hb d_Mo_sumOf_324 (lv_at hl 0 rfl) ?_
      refine lv_bipush (v := 13) hx hb d_Mo_sumOf_326 (by decide) ?_
      refine lv_lshr (v := (sr64 r317 (13 : Int32))) hx hb d_Mo_sumOf_328 rfl ?_
      refine lv_lxor hx hb d_Mo_sumOf_329 ?_
      refine lv_lload hx hb d_Mo_sumOf_330 (lv_at hl 5 rfl) ?_
      obtain ⟨r332, hc332, hf⟩ := bd1_some hf
      refine s_Sl (As := [.long (r317 ^^^ (sr64 r317 (13 : Int32))), .long x8]) (rest := []) (wr := [(w, .inr (7, [.ref wi, .ref wo, .ref wh, .int win, .int won, .int whn, .int wpl, .ref wd, .int wdn, .int wfo, .ref wm, .int wmn, .ref wp, .int wpn, .ref wb, .int wbn, .ref wc, .int wcn, .ref wl, .int wat, .int wnu])), (wl, .inl (cJ, 4, .inr (.inl wlf))), (a, .inl (cI, aL, .inl af))]) (ws' := wd_Mo_sumOf w wl a wi wo wh wd wm wp wb wc cB cI cJ aL win won whn wpl wdn wfo wmn wpn wbn wcn wat wnu wlf af) C.call (c_Mo_times l dC dI cB cI cJ    (r317 ^^^ (sr64 r317 (13 : Int32))) x8 hc332) (va_cwS 2 hts (gd_S w_423 w_424 w_357 w_425) rfl rfl rfl hd_Mo_times ⟨Nat.le_of_ble_eq_true rfl, Nat.le_of_ble_eq_true rfl⟩) rfl hl.1 rfl (Nat.le_of_ble_eq_true rfl) d_Mo_sumOf_332 ⟨Nat.le_of_ble_eq_true rfl, Nat.le_of_ble_eq_true rfl⟩ hZ hK hP hD hS hA [] [0, 1, 2] [0, 1, 2] rfl rfl rfl rfl (by decide) rfl rfl (fun H locs hP hD hS => ?_)
      refine lv_lstore (lv' := [(16, .long r332), (1, .ref a), (3, .int x3), (4, .long x4), (6, .long x6), (8, .long x8), (12, .long x12), (15, .int x15)]) hx hb d_Mo_sumOf_335 hl (by decide) rfl (fun ls hl => ?_)
      refine lv_lload hx hb d_Mo_sumOf_337 (lv_at hl 0 rfl) ?_
      refine lv_lload hx hb d_Mo_sumOf_339 (lv_at hl 0 rfl) ?_
      refine lv_bipush (v := 16) hx hb d_Mo_sumOf_341 (by decide) ?_
      refine lv_lshr (v := (sr64 r332 (16 : Int32))) hx hb d_Mo_sumOf_343 rfl ?_
      refine lv_lxor hx hb d_Mo_sumOf_344 ?_
      cases hf
      exact s_lret hx hb hr hlocks hP hK hD hS d_Mo_sumOf_345
    · have hf := br_neg c_269 hf
      refine lv_lload hx hb d_Mo_sumOf_272 (lv_at hl 7 rfl) ?_
      refine lv_aload_n hx hb d_Mo_sumOf_274 rfl (lv_at hl 0 rfl) ?_
      refine lv_iload hx hb d_Mo_sumOf_275 (lv_at hl 6 rfl) ?_
      obtain ⟨h_in, hf⟩ := as_some hf
      refine va_iald hx hb hK hP 2 1 rfl rfl h_in d_Mo_sumOf_277 ?_
      refine lv_i2l (v := ((af x15.toNatClampNeg).toInt64)) hx hb d_Mo_sumOf_278 rfl ?_
      refine lv_lload hx hb d_Mo_sumOf_279 (lv_at hl 5 rfl) ?_
      obtain ⟨r281, hc281, hf⟩ := bd1_some hf
      refine s_Sl (As := [.long ((af x15.toNatClampNeg).toInt64), .long x12]) (rest := [.long x16]) (wr := [(w, .inr (7, [.ref wi, .ref wo, .ref wh, .int win, .int won, .int whn, .int wpl, .ref wd, .int wdn, .int wfo, .ref wm, .int wmn, .ref wp, .int wpn, .ref wb, .int wbn, .ref wc, .int wcn, .ref wl, .int wat, .int wnu])), (wl, .inl (cJ, 4, .inr (.inl wlf))), (a, .inl (cI, aL, .inl af))]) (ws' := wd_Mo_sumOf w wl a wi wo wh wd wm wp wb wc cB cI cJ aL win won whn wpl wdn wfo wmn wpn wbn wcn wat wnu wlf af) C.call (c_Mo_times l dC dI cB cI cJ    ((af x15.toNatClampNeg).toInt64) x12 hc281) (va_cwS 2 hts (gd_S w_423 w_424 w_357 w_425) rfl rfl rfl hd_Mo_times ⟨Nat.le_of_ble_eq_true rfl, Nat.le_of_ble_eq_true rfl⟩) rfl hl.1 rfl (Nat.le_of_ble_eq_true rfl) d_Mo_sumOf_281 ⟨Nat.le_of_ble_eq_true rfl, Nat.le_of_ble_eq_true rfl⟩ hZ hK hP hD hS hA [] [0, 1, 2] [0, 1, 2] rfl rfl rfl rfl (by decide) rfl rfl (fun H locs hP hD hS => ?_)
      refine lv_ladd hx hb d_Mo_sumOf_284 ?_
      refine lv_ldc2 (v := 4294967295) hx hb hown (hts _ w_417) d_Mo_sumOf_285 ?_
      refine lv_land hx hb d_Mo_sumOf_288 ?_
      refine lv_bipush (v := 11) hx hb d_Mo_sumOf_289 (by decide) ?_
      obtain ⟨r291, hc291, hf⟩ := bd1_some hf
      refine s_Sl (As := [.long ((x16 + r281) &&& (4294967295 : Int64)), .int (11 : Int32)]) (rest := []) (wr := [(w, .inr (7, [.ref wi, .ref wo, .ref wh, .int win, .int won, .int whn, .int wpl, .ref wd, .int wdn, .int wfo, .ref wm, .int wmn, .ref wp, .int wpn, .ref wb, .int wbn, .ref wc, .int wcn, .ref wl, .int wat, .int wnu])), (wl, .inl (cJ, 4, .inr (.inl wlf))), (a, .inl (cI, aL, .inl af))]) (ws' := wd_Mo_sumOf w wl a wi wo wh wd wm wp wb wc cB cI cJ aL win won whn wpl wdn wfo wmn wpn wbn wcn wat wnu wlf af) C.call (c_Mo_turned l dC dI cB cI cJ    ((x16 + r281) &&& (4294967295 : Int64)) (11 : Int32) hc291) (va_cwS 2 hts (gd_S w_426 w_427 w_357 w_428) rfl rfl rfl hd_Mo_turned ⟨Nat.le_of_ble_eq_true rfl, Nat.le_of_ble_eq_true rfl⟩) rfl hl.1 rfl (Nat.le_of_ble_eq_true rfl) d_Mo_sumOf_291 ⟨Nat.le_of_ble_eq_true rfl, Nat.le_of_ble_eq_true rfl⟩ hZ hK hP hD hS hA [] [0, 1, 2] [0, 1, 2] rfl rfl rfl rfl (by decide) rfl rfl (fun H locs hP hD hS => ?_)
      refine lv_lload hx hb d_Mo_sumOf_294 (lv_at hl 2 rfl) ?_
      obtain ⟨r296, hc296, hf⟩ := bd1_some hf
      refine s_Sl (As := [.long r291, .long x4]) (rest := []) (wr := [(w, .inr (7, [.ref wi, .ref wo, .ref wh, .int win, .int won, .int whn, .int wpl, .ref wd, .int wdn, .int wfo, .ref wm, .int wmn, .ref wp, .int wpn, .ref wb, .int wbn, .ref wc, .int wcn, .ref wl, .int wat, .int wnu])), (wl, .inl (cJ, 4, .inr (.inl wlf))), (a, .inl (cI, aL, .inl af))]) (ws' := wd_Mo_sumOf w wl a wi wo wh wd wm wp wb wc cB cI cJ aL win won whn wpl wdn wfo wmn wpn wbn wcn wat wnu wlf af) C.call (c_Mo_times l dC dI cB cI cJ    r291 x4 hc296) (va_cwS 2 hts (gd_S w_423 w_424 w_357 w_425) rfl rfl rfl hd_Mo_times ⟨Nat.le_of_ble_eq_true rfl, Nat.le_of_ble_eq_true rfl⟩) rfl hl.1 rfl (Nat.le_of_ble_eq_true rfl) d_Mo_sumOf_296 ⟨Nat.le_of_ble_eq_true rfl, Nat.le_of_ble_eq_true rfl⟩ hZ hK hP hD hS hA [] [0, 1, 2] [0, 1, 2] rfl rfl rfl rfl (by decide) rfl rfl (fun H locs hP hD hS => ?_)
      refine lv_lstore (lv' := [(16, .long r296), (1, .ref a), (3, .int x3), (4, .long x4), (6, .long x6), (8, .long x8), (12, .long x12), (15, .int x15)]) hx hb d_Mo_sumOf_299 hl (by decide) rfl (fun ls hl => ?_)
      refine lv_iinc (v := (x15 + 1)) (lv' := [(15, .int (x15 + 1)), (16, .long r296), (1, .ref a), (3, .int x3), (4, .long x4), (6, .long x6), (8, .long x8), (12, .long x12)]) hx hb d_Mo_sumOf_301 hl (k := 7) rfl (congrArg (fun z => x15 + z) (by decide)) (by decide) rfl (fun ls hl => ?_)
      refine lv_goto (tgt := 266) hx hb d_Mo_sumOf_304 (by decide) ?_
      exact ih266 (x15 + 1) r296 hf _ _ hP hD hS _ (lv_sub hl [2, 3, 4, 5, 6, 7, 0, 1] rfl)
noncomputable def b_Mo_sumOf_222 (N : Nat) (aL : Nat) (x3 : Int32) (x4 : Int64) (x6 : Int64) (x8 : Int64) (x10 : Int64) (x12 : Int64) (wlf : Nat → Int64) (af : Nat → Int32)  (kh222 : Int32 → Int64 → Option (Int64 × (Nat → Int64))) (x15 : Int32) (x16 : Int64) : Option (Int64 × (Nat → Int64)) :=
  (if (x3 - x15) < (4 : Int32) then (loop2 (b_Mo_sumOf_266 aL x3 x4 x6 x8 x12 wlf af ) N x15 x16) else bd1 (f_Mo_word aL x15 af) (fun r235 => bd1 (f_Mo_times r235 x8) (fun r240 => bd1 (f_Mo_turned ((x16 + r240) &&& (4294967295 : Int64)) (17 : Int32)) (fun r250 => bd1 (f_Mo_times r250 x10) (fun r255 => (kh222 (x15 + 4) r255))))))
set_option maxHeartbeats 4000000 in
set_option maxRecDepth 100000 in
theorem k_Mo_sumOf_222 {r_z : Int64} {wlf_z : Nat → Int64} (C : Fx p s m args meth c cd_Mo_sumOf 19 R_Mo lw_g (some .long)) (hK : va_K (dC, dI) vwCl [(cB, .byte), (cI, .int), (cJ, .long)] s) (hA : ∀ q, s.heap.size ≤ q → A q) (x3 : Int32) (x4 : Int64) (x6 : Int64) (x8 : Int64) (x10 : Int64) (x12 : Int64) (win : Int32) (won : Int32) (whn : Int32) (wpl : Int32) (wdn : Int32) (wfo : Int32) (wmn : Int32) (wpn : Int32) (wbn : Int32) (wcn : Int32) (wat : Int32) (wnu : Int32) (wlf : Nat → Int64) (af : Nat → Int32)  : ∀ (n : Nat) (x15 : Int32) (x16 : Int64), loop2 (b_Mo_sumOf_222 N aL x3 x4 x6 x8 x10 x12 wlf af ) n x15 x16 = some (r_z, wlf_z) → ∀ (H : Heap) (locs : List Loc), va_P (dC, dI) vwCl (wd_Mo_sumOf w wl a wi wo wh wd wm wp wb wc cB cI cJ aL win won whn wpl wdn wfo wmn wpn wbn wcn wat wnu wlf af) H → va_D A (wd_Mo_sumOf w wl a wi wo wh wd wm wp wb wc cB cI cJ aL win won whn wpl wdn wfo wmn wpn wbn wcn wat wnu wlf af) → va_S A s.heap H locs → ∀ (ls : Array Slot), lv_has ls 19 [(1, .ref a), (3, .int x3), (4, .long x4), (6, .long x6), (8, .long x8), (10, .long x10), (12, .long x12), (15, .int x15), (16, .long x16)] → W p l e rm_Mo_sumOf s m args below meth c H locs 0 0 (MQ below (sQl (dC, dI) vwCl [(cB, .byte), (cI, .int), (cJ, .long)] A r_z (wd_Mo_sumOf w wl a wi wo wh wd wm wp wb wc cB cI cJ aL win won whn wpl wdn wfo wmn wpn wbn wcn wat wnu wlf_z af)) args s 0 0 A) (F0 m 222 ls []) := by
  obtain ⟨hx, hb, hml, hown, hts, hr, hlocks, hZ⟩ := id C
  intro n
  induction n with
  | zero => intro x15 x16 hf; cases hf
  | succ n ih222 =>
    intro x15 x16 hf H locs hP hD hS ls hl
    have hf : b_Mo_sumOf_222 N aL x3 x4 x6 x8 x10 x12 wlf af  (loop2 (b_Mo_sumOf_222 N aL x3 x4 x6 x8 x10 x12 wlf af ) n) x15 x16 = some (r_z, wlf_z) := hf
    generalize loop2 (b_Mo_sumOf_222 N aL x3 x4 x6 x8 x10 x12 wlf af ) n = kh222 at hf ih222
    unfold b_Mo_sumOf_222 at hf
    refine lv_iload_n hx hb d_Mo_sumOf_222 rfl (lv_at hl 1 rfl) ?_
    refine lv_iload hx hb d_Mo_sumOf_223 (lv_at hl 7 rfl) ?_
    refine lv_isub hx hb d_Mo_sumOf_225 ?_
    refine lv_iconst (v := 4) hx hb d_Mo_sumOf_226 (by decide) ?_
    refine lv_icmp_lt (tgt := 266) hx hb d_Mo_sumOf_227 (by decide) (fun c_227 => ?_) (fun c_227 => ?_)
    · have hf := br_pos c_227 hf
      exact k_Mo_sumOf_266 C hK hA x3 x4 x6 x8 x12 win won whn wpl wdn wfo wmn wpn wbn wcn wat wnu wlf af  N x15 x16 hf _ _ hP hD hS _ (lv_sub hl [0, 1, 2, 3, 4, 6, 7, 8] rfl)
    · have hf := br_neg c_227 hf
      refine lv_lload hx hb d_Mo_sumOf_230 (lv_at hl 8 rfl) ?_
      refine lv_aload_n hx hb d_Mo_sumOf_232 rfl (lv_at hl 0 rfl) ?_
      refine lv_iload hx hb d_Mo_sumOf_233 (lv_at hl 7 rfl) ?_
      obtain ⟨r235, hc235, hf⟩ := bd1_some hf
      refine s_Sl (As := [.ref a, .int x15]) (rest := [.long x16]) (wr := [(w, .inr (7, [.ref wi, .ref wo, .ref wh, .int win, .int won, .int whn, .int wpl, .ref wd, .int wdn, .int wfo, .ref wm, .int wmn, .ref wp, .int wpn, .ref wb, .int wbn, .ref wc, .int wcn, .ref wl, .int wat, .int wnu])), (wl, .inl (cJ, 4, .inr (.inl wlf)))]) (ws' := wd_Mo_sumOf w wl a wi wo wh wd wm wp wb wc cB cI cJ aL win won whn wpl wdn wfo wmn wpn wbn wcn wat wnu wlf af) C.call (c_Mo_word l dC dI cB cI cJ a aL af x15 hc235) (va_cwS 2 hts (gd_S w_429 w_430 w_357 w_431) rfl rfl rfl hd_Mo_word ⟨Nat.le_of_ble_eq_true rfl, Nat.le_of_ble_eq_true rfl⟩) rfl hl.1 rfl (Nat.le_of_ble_eq_true rfl) d_Mo_sumOf_235 ⟨Nat.le_of_ble_eq_true rfl, Nat.le_of_ble_eq_true rfl⟩ hZ hK hP hD hS hA [2] [0, 1] [0, 1, 2] rfl rfl rfl rfl (by decide) rfl rfl (fun H locs hP hD hS => ?_)
      refine lv_lload hx hb d_Mo_sumOf_238 (lv_at hl 4 rfl) ?_
      obtain ⟨r240, hc240, hf⟩ := bd1_some hf
      refine s_Sl (As := [.long r235, .long x8]) (rest := [.long x16]) (wr := [(w, .inr (7, [.ref wi, .ref wo, .ref wh, .int win, .int won, .int whn, .int wpl, .ref wd, .int wdn, .int wfo, .ref wm, .int wmn, .ref wp, .int wpn, .ref wb, .int wbn, .ref wc, .int wcn, .ref wl, .int wat, .int wnu])), (wl, .inl (cJ, 4, .inr (.inl wlf))), (a, .inl (cI, aL, .inl af))]) (ws' := wd_Mo_sumOf w wl a wi wo wh wd wm wp wb wc cB cI cJ aL win won whn wpl wdn wfo wmn wpn wbn wcn wat wnu wlf af) C.call (c_Mo_times l dC dI cB cI cJ    r235 x8 hc240) (va_cwS 2 hts (gd_S w_423 w_424 w_357 w_425) rfl rfl rfl hd_Mo_times ⟨Nat.le_of_ble_eq_true rfl, Nat.le_of_ble_eq_true rfl⟩) rfl hl.1 rfl (Nat.le_of_ble_eq_true rfl) d_Mo_sumOf_240 ⟨Nat.le_of_ble_eq_true rfl, Nat.le_of_ble_eq_true rfl⟩ hZ hK hP hD hS hA [] [0, 1, 2] [0, 1, 2] rfl rfl rfl rfl (by decide) rfl rfl (fun H locs hP hD hS => ?_)
      refine lv_ladd hx hb d_Mo_sumOf_243 ?_
      refine lv_ldc2 (v := 4294967295) hx hb hown (hts _ w_417) d_Mo_sumOf_244 ?_
      refine lv_land hx hb d_Mo_sumOf_247 ?_
      refine lv_bipush (v := 17) hx hb d_Mo_sumOf_248 (by decide) ?_
      obtain ⟨r250, hc250, hf⟩ := bd1_some hf
      refine s_Sl (As := [.long ((x16 + r240) &&& (4294967295 : Int64)), .int (17 : Int32)]) (rest := []) (wr := [(w, .inr (7, [.ref wi, .ref wo, .ref wh, .int win, .int won, .int whn, .int wpl, .ref wd, .int wdn, .int wfo, .ref wm, .int wmn, .ref wp, .int wpn, .ref wb, .int wbn, .ref wc, .int wcn, .ref wl, .int wat, .int wnu])), (wl, .inl (cJ, 4, .inr (.inl wlf))), (a, .inl (cI, aL, .inl af))]) (ws' := wd_Mo_sumOf w wl a wi wo wh wd wm wp wb wc cB cI cJ aL win won whn wpl wdn wfo wmn wpn wbn wcn wat wnu wlf af) C.call (c_Mo_turned l dC dI cB cI cJ    ((x16 + r240) &&& (4294967295 : Int64)) (17 : Int32) hc250) (va_cwS 2 hts (gd_S w_426 w_427 w_357 w_428) rfl rfl rfl hd_Mo_turned ⟨Nat.le_of_ble_eq_true rfl, Nat.le_of_ble_eq_true rfl⟩) rfl hl.1 rfl (Nat.le_of_ble_eq_true rfl) d_Mo_sumOf_250 ⟨Nat.le_of_ble_eq_true rfl, Nat.le_of_ble_eq_true rfl⟩ hZ hK hP hD hS hA [] [0, 1, 2] [0, 1, 2] rfl rfl rfl rfl (by decide) rfl rfl (fun H locs hP hD hS => ?_)
      refine lv_lload hx hb d_Mo_sumOf_253 (lv_at hl 5 rfl) ?_
      obtain ⟨r255, hc255, hf⟩ := bd1_some hf
      refine s_Sl (As := [.long r250, .long x10]) (rest := []) (wr := [(w, .inr (7, [.ref wi, .ref wo, .ref wh, .int win, .int won, .int whn, .int wpl, .ref wd, .int wdn, .int wfo, .ref wm, .int wmn, .ref wp, .int wpn, .ref wb, .int wbn, .ref wc, .int wcn, .ref wl, .int wat, .int wnu])), (wl, .inl (cJ, 4, .inr (.inl wlf))), (a, .inl (cI, aL, .inl af))]) (ws' := wd_Mo_sumOf w wl a wi wo wh wd wm wp wb wc cB cI cJ aL win won whn wpl wdn wfo wmn wpn wbn wcn wat wnu wlf af) C.call (c_Mo_times l dC dI cB cI cJ    r250 x10 hc255) (va_cwS 2 hts (gd_S w_423 w_424 w_357 w_425) rfl rfl rfl hd_Mo_times ⟨Nat.le_of_ble_eq_true rfl, Nat.le_of_ble_eq_true rfl⟩) rfl hl.1 rfl (Nat.le_of_ble_eq_true rfl) d_Mo_sumOf_255 ⟨Nat.le_of_ble_eq_true rfl, Nat.le_of_ble_eq_true rfl⟩ hZ hK hP hD hS hA [] [0, 1, 2] [0, 1, 2] rfl rfl rfl rfl (by decide) rfl rfl (fun H locs hP hD hS => ?_)
      refine lv_lstore (lv' := [(16, .long r255), (1, .ref a), (3, .int x3), (4, .long x4), (6, .long x6), (8, .long x8), (10, .long x10), (12, .long x12), (15, .int x15)]) hx hb d_Mo_sumOf_258 hl (by decide) rfl (fun ls hl => ?_)
      refine lv_iinc (v := (x15 + 4)) (lv' := [(15, .int (x15 + 4)), (16, .long r255), (1, .ref a), (3, .int x3), (4, .long x4), (6, .long x6), (8, .long x8), (10, .long x10), (12, .long x12)]) hx hb d_Mo_sumOf_260 hl (k := 8) rfl (congrArg (fun z => x15 + z) (by decide)) (by decide) rfl (fun ls hl => ?_)
      refine lv_goto (tgt := 222) hx hb d_Mo_sumOf_263 (by decide) ?_
      exact ih222 (x15 + 4) r255 hf _ _ hP hD hS _ (lv_sub hl [2, 3, 4, 5, 6, 7, 8, 0, 1] rfl)
noncomputable def j_Mo_sumOf_210 (N : Nat) (aL : Nat) (x3 : Int32) (x4 : Int64) (x6 : Int64) (x8 : Int64) (x10 : Int64) (x12 : Int64) (x14 : Int32) (x15 : Int32) (x16 : Int64) (wlf : Nat → Int64) (af : Nat → Int32)  : Option (Int64 × (Nat → Int64)) :=
  (loop2 (b_Mo_sumOf_222 N aL x3 x4 x6 x8 x10 x12 wlf af ) N x15 ((x16 + (x14.toInt64)) &&& (4294967295 : Int64)))
set_option maxHeartbeats 4000000 in
set_option maxRecDepth 100000 in
theorem k_Mo_sumOf_210 {r_z : Int64} {wlf_z : Nat → Int64} (C : Fx p s m args meth c cd_Mo_sumOf 19 R_Mo lw_g (some .long)) (hK : va_K (dC, dI) vwCl [(cB, .byte), (cI, .int), (cJ, .long)] s) (hA : ∀ q, s.heap.size ≤ q → A q) (x3 : Int32) (x4 : Int64) (x6 : Int64) (x8 : Int64) (x10 : Int64) (x12 : Int64) (x14 : Int32) (x15 : Int32) (x16 : Int64) (win : Int32) (won : Int32) (whn : Int32) (wpl : Int32) (wdn : Int32) (wfo : Int32) (wmn : Int32) (wpn : Int32) (wbn : Int32) (wcn : Int32) (wat : Int32) (wnu : Int32) (wlf : Nat → Int64) (af : Nat → Int32)  (hf : j_Mo_sumOf_210 N aL x3 x4 x6 x8 x10 x12 x14 x15 x16 wlf af  = some (r_z, wlf_z)) (hP : va_P (dC, dI) vwCl (wd_Mo_sumOf w wl a wi wo wh wd wm wp wb wc cB cI cJ aL win won whn wpl wdn wfo wmn wpn wbn wcn wat wnu wlf af) H) (hD : va_D A (wd_Mo_sumOf w wl a wi wo wh wd wm wp wb wc cB cI cJ aL win won whn wpl wdn wfo wmn wpn wbn wcn wat wnu wlf af)) (hS : va_S A s.heap H locs) (hl : lv_has ls 19 [(1, .ref a), (3, .int x3), (4, .long x4), (6, .long x6), (8, .long x8), (10, .long x10), (12, .long x12), (14, .int x14), (15, .int x15), (16, .long x16)]) : W p l e rm_Mo_sumOf s m args below meth c H locs 0 0 (MQ below (sQl (dC, dI) vwCl [(cB, .byte), (cI, .int), (cJ, .long)] A r_z (wd_Mo_sumOf w wl a wi wo wh wd wm wp wb wc cB cI cJ aL win won whn wpl wdn wfo wmn wpn wbn wcn wat wnu wlf_z af)) args s 0 0 A) (F0 m 210 ls []) := by
  obtain ⟨hx, hb, hml, hown, hts, hr, hlocks, hZ⟩ := id C
  unfold j_Mo_sumOf_210 at hf
  refine lv_lload hx hb d_Mo_sumOf_210 (lv_at hl 9 rfl) ?_
  refine lv_iload hx hb d_Mo_sumOf_212 (lv_at hl 7 rfl) ?_
  refine lv_i2l (v := (x14.toInt64)) hx hb d_Mo_sumOf_214 rfl ?_
  refine lv_ladd hx hb d_Mo_sumOf_215 ?_
  refine lv_ldc2 (v := 4294967295) hx hb hown (hts _ w_417) d_Mo_sumOf_216 ?_
  refine lv_land hx hb d_Mo_sumOf_219 ?_
  refine lv_lstore (lv' := [(16, .long ((x16 + (x14.toInt64)) &&& (4294967295 : Int64))), (1, .ref a), (3, .int x3), (4, .long x4), (6, .long x6), (8, .long x8), (10, .long x10), (12, .long x12), (14, .int x14), (15, .int x15)]) hx hb d_Mo_sumOf_220 hl (by decide) rfl (fun ls hl => ?_)
  exact k_Mo_sumOf_222 C hK hA x3 x4 x6 x8 x10 x12 win won whn wpl wdn wfo wmn wpn wbn wcn wat wnu wlf af  N x15 ((x16 + (x14.toInt64)) &&& (4294967295 : Int64)) hf _ _ hP hD hS _ (lv_sub hl [1, 2, 3, 4, 5, 6, 7, 9, 0] rfl)
noncomputable def b_Mo_sumOf_100 (aL : Nat) (x4 : Int64) (x6 : Int64) (af : Nat → Int32) (kh88 : Int32 → (Nat → Int64) → Option (Int64 × (Nat → Int64))) (kh100 : Int32 → Int32 → (Nat → Int64) → Option (Int64 × (Nat → Int64))) (x15 : Int32) (x18 : Int32) (wlf : Nat → Int64) : Option (Int64 × (Nat → Int64)) :=
  (if (4 : Int32) ≤ x18 then (kh88 x15 wlf) else as_ (vp_in x18 4) (bd1 (f_Mo_word aL x15 af) (fun r122 => bd1 (f_Mo_times r122 x6) (fun r127 => bd1 (f_Mo_turned (((wlf x18.toNatClampNeg) + r127) &&& (4294967295 : Int64)) (13 : Int32)) (fun r137 => bd1 (f_Mo_times r137 x4) (fun r142 => as_ (vp_in x18 4) ((kh100 (x15 + 4) (x18 + 1) (vp_updL wlf x18.toNatClampNeg r142)))))))))
set_option maxHeartbeats 4000000 in
set_option maxRecDepth 100000 in
theorem k_Mo_sumOf_100 {r_z : Int64} {wlf_z : Nat → Int64} (C : Fx p s m args meth c cd_Mo_sumOf 19 R_Mo lw_g (some .long)) (hK : va_K (dC, dI) vwCl [(cB, .byte), (cI, .int), (cJ, .long)] s) (hA : ∀ q, s.heap.size ≤ q → A q) (x3 : Int32) (x4 : Int64) (x6 : Int64) (x8 : Int64) (x10 : Int64) (x12 : Int64) (x14 : Int32) (win : Int32) (won : Int32) (whn : Int32) (wpl : Int32) (wdn : Int32) (wfo : Int32) (wmn : Int32) (wpn : Int32) (wbn : Int32) (wcn : Int32) (wat : Int32) (wnu : Int32) (af : Nat → Int32) (kh88 : Int32 → (Nat → Int64) → Option (Int64 × (Nat → Int64))) (ih88 : ∀ (x15 : Int32) (wlf : Nat → Int64), kh88 x15 wlf = some (r_z, wlf_z) → ∀ (H : Heap) (locs : List Loc), va_P (dC, dI) vwCl (wd_Mo_sumOf w wl a wi wo wh wd wm wp wb wc cB cI cJ aL win won whn wpl wdn wfo wmn wpn wbn wcn wat wnu wlf af) H → va_D A (wd_Mo_sumOf w wl a wi wo wh wd wm wp wb wc cB cI cJ aL win won whn wpl wdn wfo wmn wpn wbn wcn wat wnu wlf af) → va_S A s.heap H locs → ∀ (ls : Array Slot), lv_has ls 19 [(0, .ref w), (1, .ref a), (3, .int x3), (4, .long x4), (6, .long x6), (8, .long x8), (10, .long x10), (12, .long x12), (14, .int x14), (15, .int x15)] → W p l e rm_Mo_sumOf s m args below meth c H locs 0 0 (MQ below (sQl (dC, dI) vwCl [(cB, .byte), (cI, .int), (cJ, .long)] A r_z (wd_Mo_sumOf w wl a wi wo wh wd wm wp wb wc cB cI cJ aL win won whn wpl wdn wfo wmn wpn wbn wcn wat wnu wlf_z af)) args s 0 0 A) (F0 m 88 ls [])) : ∀ (n : Nat) (x15 : Int32) (x18 : Int32) (wlf : Nat → Int64), loop3 (b_Mo_sumOf_100 aL x4 x6 af kh88) n x15 x18 wlf = some (r_z, wlf_z) → ∀ (H : Heap) (locs : List Loc), va_P (dC, dI) vwCl (wd_Mo_sumOf w wl a wi wo wh wd wm wp wb wc cB cI cJ aL win won whn wpl wdn wfo wmn wpn wbn wcn wat wnu wlf af) H → va_D A (wd_Mo_sumOf w wl a wi wo wh wd wm wp wb wc cB cI cJ aL win won whn wpl wdn wfo wmn wpn wbn wcn wat wnu wlf af) → va_S A s.heap H locs → ∀ (ls : Array Slot), lv_has ls 19 [(0, .ref w), (1, .ref a), (3, .int x3), (4, .long x4), (6, .long x6), (8, .long x8), (10, .long x10), (12, .long x12), (14, .int x14), (15, .int x15), (18, .int x18)] → W p l e rm_Mo_sumOf s m args below meth c H locs 0 0 (MQ below (sQl (dC, dI) vwCl [(cB, .byte), (cI, .int), (cJ, .long)] A r_z (wd_Mo_sumOf w wl a wi wo wh wd wm wp wb wc cB cI cJ aL win won whn wpl wdn wfo wmn wpn wbn wcn wat wnu wlf_z af)) args s 0 0 A) (F0 m 100 ls []) := by
  obtain ⟨hx, hb, hml, hown, hts, hr, hlocks, hZ⟩ := id C
  intro n
  induction n with
  | zero => intro x15 x18 wlf hf; cases hf
  | succ n ih100 =>
    intro x15 x18 wlf hf H locs hP hD hS ls hl
    have hf : b_Mo_sumOf_100 aL x4 x6 af kh88 (loop3 (b_Mo_sumOf_100 aL x4 x6 af kh88) n) x15 x18 wlf = some (r_z, wlf_z) := hf
    generalize loop3 (b_Mo_sumOf_100 aL x4 x6 af kh88) n = kh100 at hf ih100
    unfold b_Mo_sumOf_100 at hf
    refine lv_iload hx hb d_Mo_sumOf_100 (lv_at hl 10 rfl) ?_
    refine lv_iconst (v := 4) hx hb d_Mo_sumOf_102 (by decide) ?_
    refine lv_icmp_ge (tgt := 155) hx hb d_Mo_sumOf_103 (by decide) (fun c_103 => ?_) (fun c_103 => ?_)
    · have hf := br_pos c_103 hf
      refine lv_goto (tgt := 88) hx hb d_Mo_sumOf_155 (by decide) ?_
      exact ih88 x15 wlf hf _ _ hP hD hS _ (lv_sub hl [0, 1, 2, 3, 4, 5, 6, 7, 8, 9] rfl)
    · have hf := br_neg c_103 hf
      refine lv_aload_n hx hb d_Mo_sumOf_106 rfl (lv_at hl 0 rfl) ?_
      refine va_get (D := (dC, dI)) (ci := 7) (v := .ref wl) (C := R_Mo) (T := T_Mo) (N := 21) hx hb hts w_351 hown hK hP 0 rfl rfl 18 (by decide) (hts _ w_432) (fun _ h9 => h9) rfl d_Mo_sumOf_107 ?_
      refine lv_iload hx hb d_Mo_sumOf_110 (lv_at hl 10 rfl) ?_
      refine lv_aload_n hx hb d_Mo_sumOf_112 rfl (lv_at hl 0 rfl) ?_
      refine va_get (D := (dC, dI)) (ci := 7) (v := .ref wl) (C := R_Mo) (T := T_Mo) (N := 21) hx hb hts w_351 hown hK hP 0 rfl rfl 18 (by decide) (hts _ w_432) (fun _ h9 => h9) rfl d_Mo_sumOf_113 ?_
      refine lv_iload hx hb d_Mo_sumOf_116 (lv_at hl 10 rfl) ?_
      obtain ⟨h_in, hf⟩ := as_some hf
      refine va_lald hx hb hK hP 1 2 rfl rfl h_in d_Mo_sumOf_118 ?_
      refine lv_aload_n hx hb d_Mo_sumOf_119 rfl (lv_at hl 1 rfl) ?_
      refine lv_iload hx hb d_Mo_sumOf_120 (lv_at hl 9 rfl) ?_
      obtain ⟨r122, hc122, hf⟩ := bd1_some hf
      refine s_Sl (As := [.ref a, .int x15]) (rest := [.long (wlf x18.toNatClampNeg), .int x18, .ref wl]) (wr := [(w, .inr (7, [.ref wi, .ref wo, .ref wh, .int win, .int won, .int whn, .int wpl, .ref wd, .int wdn, .int wfo, .ref wm, .int wmn, .ref wp, .int wpn, .ref wb, .int wbn, .ref wc, .int wcn, .ref wl, .int wat, .int wnu])), (wl, .inl (cJ, 4, .inr (.inl wlf)))]) (ws' := wd_Mo_sumOf w wl a wi wo wh wd wm wp wb wc cB cI cJ aL win won whn wpl wdn wfo wmn wpn wbn wcn wat wnu wlf af) C.call (c_Mo_word l dC dI cB cI cJ a aL af x15 hc122) (va_cwS 2 hts (gd_S w_429 w_430 w_357 w_431) rfl rfl rfl hd_Mo_word ⟨Nat.le_of_ble_eq_true rfl, Nat.le_of_ble_eq_true rfl⟩) rfl hl.1 rfl (Nat.le_of_ble_eq_true rfl) d_Mo_sumOf_122 ⟨Nat.le_of_ble_eq_true rfl, Nat.le_of_ble_eq_true rfl⟩ hZ hK hP hD hS hA [2] [0, 1] [0, 1, 2] rfl rfl rfl rfl (by decide) rfl rfl (fun H locs hP hD hS => ?_)
      refine lv_lload hx hb d_Mo_sumOf_125 (lv_at hl 4 rfl) ?_
      obtain ⟨r127, hc127, hf⟩ := bd1_some hf
      refine s_Sl (As := [.long r122, .long x6]) (rest := [.long (wlf x18.toNatClampNeg), .int x18, .ref wl]) (wr := [(w, .inr (7, [.ref wi, .ref wo, .ref wh, .int win, .int won, .int whn, .int wpl, .ref wd, .int wdn, .int wfo, .ref wm, .int wmn, .ref wp, .int wpn, .ref wb, .int wbn, .ref wc, .int wcn, .ref wl, .int wat, .int wnu])), (wl, .inl (cJ, 4, .inr (.inl wlf))), (a, .inl (cI, aL, .inl af))]) (ws' := wd_Mo_sumOf w wl a wi wo wh wd wm wp wb wc cB cI cJ aL win won whn wpl wdn wfo wmn wpn wbn wcn wat wnu wlf af) C.call (c_Mo_times l dC dI cB cI cJ    r122 x6 hc127) (va_cwS 2 hts (gd_S w_423 w_424 w_357 w_425) rfl rfl rfl hd_Mo_times ⟨Nat.le_of_ble_eq_true rfl, Nat.le_of_ble_eq_true rfl⟩) rfl hl.1 rfl (Nat.le_of_ble_eq_true rfl) d_Mo_sumOf_127 ⟨Nat.le_of_ble_eq_true rfl, Nat.le_of_ble_eq_true rfl⟩ hZ hK hP hD hS hA [] [0, 1, 2] [0, 1, 2] rfl rfl rfl rfl (by decide) rfl rfl (fun H locs hP hD hS => ?_)
      refine lv_ladd hx hb d_Mo_sumOf_130 ?_
      refine lv_ldc2 (v := 4294967295) hx hb hown (hts _ w_417) d_Mo_sumOf_131 ?_
      refine lv_land hx hb d_Mo_sumOf_134 ?_
      refine lv_bipush (v := 13) hx hb d_Mo_sumOf_135 (by decide) ?_
      obtain ⟨r137, hc137, hf⟩ := bd1_some hf
      refine s_Sl (As := [.long (((wlf x18.toNatClampNeg) + r127) &&& (4294967295 : Int64)), .int (13 : Int32)]) (rest := [.int x18, .ref wl]) (wr := [(w, .inr (7, [.ref wi, .ref wo, .ref wh, .int win, .int won, .int whn, .int wpl, .ref wd, .int wdn, .int wfo, .ref wm, .int wmn, .ref wp, .int wpn, .ref wb, .int wbn, .ref wc, .int wcn, .ref wl, .int wat, .int wnu])), (wl, .inl (cJ, 4, .inr (.inl wlf))), (a, .inl (cI, aL, .inl af))]) (ws' := wd_Mo_sumOf w wl a wi wo wh wd wm wp wb wc cB cI cJ aL win won whn wpl wdn wfo wmn wpn wbn wcn wat wnu wlf af) C.call (c_Mo_turned l dC dI cB cI cJ    (((wlf x18.toNatClampNeg) + r127) &&& (4294967295 : Int64)) (13 : Int32) hc137) (va_cwS 2 hts (gd_S w_426 w_427 w_357 w_428) rfl rfl rfl hd_Mo_turned ⟨Nat.le_of_ble_eq_true rfl, Nat.le_of_ble_eq_true rfl⟩) rfl hl.1 rfl (Nat.le_of_ble_eq_true rfl) d_Mo_sumOf_137 ⟨Nat.le_of_ble_eq_true rfl, Nat.le_of_ble_eq_true rfl⟩ hZ hK hP hD hS hA [] [0, 1, 2] [0, 1, 2] rfl rfl rfl rfl (by decide) rfl rfl (fun H locs hP hD hS => ?_)
      refine lv_lload hx hb d_Mo_sumOf_140 (lv_at hl 3 rfl) ?_
      obtain ⟨r142, hc142, hf⟩ := bd1_some hf
      refine s_Sl (As := [.long r137, .long x4]) (rest := [.int x18, .ref wl]) (wr := [(w, .inr (7, [.ref wi, .ref wo, .ref wh, .int win, .int won, .int whn, .int wpl, .ref wd, .int wdn, .int wfo, .ref wm, .int wmn, .ref wp, .int wpn, .ref wb, .int wbn, .ref wc, .int wcn, .ref wl, .int wat, .int wnu])), (wl, .inl (cJ, 4, .inr (.inl wlf))), (a, .inl (cI, aL, .inl af))]) (ws' := wd_Mo_sumOf w wl a wi wo wh wd wm wp wb wc cB cI cJ aL win won whn wpl wdn wfo wmn wpn wbn wcn wat wnu wlf af) C.call (c_Mo_times l dC dI cB cI cJ    r137 x4 hc142) (va_cwS 2 hts (gd_S w_423 w_424 w_357 w_425) rfl rfl rfl hd_Mo_times ⟨Nat.le_of_ble_eq_true rfl, Nat.le_of_ble_eq_true rfl⟩) rfl hl.1 rfl (Nat.le_of_ble_eq_true rfl) d_Mo_sumOf_142 ⟨Nat.le_of_ble_eq_true rfl, Nat.le_of_ble_eq_true rfl⟩ hZ hK hP hD hS hA [] [0, 1, 2] [0, 1, 2] rfl rfl rfl rfl (by decide) rfl rfl (fun H locs hP hD hS => ?_)
      obtain ⟨h_in, hf⟩ := as_some hf
      refine va_last hx hb hK hP hD hS 1 2 rfl rfl h_in d_Mo_sumOf_145 (fun H locs hP hD hS => ?_)
      have hP : va_P (dC, dI) vwCl (wd_Mo_sumOf w wl a wi wo wh wd wm wp wb wc cB cI cJ aL win won whn wpl wdn wfo wmn wpn wbn wcn wat wnu (vp_updL wlf x18.toNatClampNeg r142) af) H := hP
      have hD : va_D A (wd_Mo_sumOf w wl a wi wo wh wd wm wp wb wc cB cI cJ aL win won whn wpl wdn wfo wmn wpn wbn wcn wat wnu (vp_updL wlf x18.toNatClampNeg r142) af) := hD
      refine lv_iinc (v := (x15 + 4)) (lv' := [(15, .int (x15 + 4)), (0, .ref w), (1, .ref a), (3, .int x3), (4, .long x4), (6, .long x6), (8, .long x8), (10, .long x10), (12, .long x12), (14, .int x14), (18, .int x18)]) hx hb d_Mo_sumOf_146 hl (k := 9) rfl (congrArg (fun z => x15 + z) (by decide)) (by decide) rfl (fun ls hl => ?_)
      refine lv_iinc (v := (x18 + 1)) (lv' := [(18, .int (x18 + 1)), (15, .int (x15 + 4)), (0, .ref w), (1, .ref a), (3, .int x3), (4, .long x4), (6, .long x6), (8, .long x8), (10, .long x10), (12, .long x12), (14, .int x14)]) hx hb d_Mo_sumOf_149 hl (k := 10) rfl (congrArg (fun z => x18 + z) (by decide)) (by decide) rfl (fun ls hl => ?_)
      refine lv_goto (tgt := 100) hx hb d_Mo_sumOf_152 (by decide) ?_
      exact ih100 (x15 + 4) (x18 + 1) (vp_updL wlf x18.toNatClampNeg r142) hf _ _ hP hD hS _ (lv_sub hl [2, 3, 4, 5, 6, 7, 8, 9, 10, 1, 0] rfl)
noncomputable def b_Mo_sumOf_88 (N : Nat) (aL : Nat) (x3 : Int32) (x4 : Int64) (x6 : Int64) (x8 : Int64) (x10 : Int64) (x12 : Int64) (x14 : Int32) (af : Nat → Int32)  (kh88 : Int32 → (Nat → Int64) → Option (Int64 × (Nat → Int64))) (x15 : Int32) (wlf : Nat → Int64) : Option (Int64 × (Nat → Int64)) :=
  (if (x3 - x15) < (16 : Int32) then as_ (vp_in (0 : Int32) 4) (bd1 (f_Mo_turned (wlf (0 : Int32).toNatClampNeg) (1 : Int32)) (fun r165 => as_ (vp_in (1 : Int32) 4) (bd1 (f_Mo_turned (wlf (1 : Int32).toNatClampNeg) (7 : Int32)) (fun r176 => as_ (vp_in (2 : Int32) 4) (bd1 (f_Mo_turned (wlf (2 : Int32).toNatClampNeg) (12 : Int32)) (fun r188 => as_ (vp_in (3 : Int32) 4) (bd1 (f_Mo_turned (wlf (3 : Int32).toNatClampNeg) (18 : Int32)) (fun r200 => (j_Mo_sumOf_210 N aL x3 x4 x6 x8 x10 x12 x14 x15 ((((r165 + r176) + r188) + r200) &&& (4294967295 : Int64)) wlf af ))))))))) else (loop3 (b_Mo_sumOf_100 aL x4 x6 af kh88) N x15 (0 : Int32) wlf))
set_option maxHeartbeats 4000000 in
set_option maxRecDepth 100000 in
theorem k_Mo_sumOf_88 {r_z : Int64} {wlf_z : Nat → Int64} (C : Fx p s m args meth c cd_Mo_sumOf 19 R_Mo lw_g (some .long)) (hK : va_K (dC, dI) vwCl [(cB, .byte), (cI, .int), (cJ, .long)] s) (hA : ∀ q, s.heap.size ≤ q → A q) (x3 : Int32) (x4 : Int64) (x6 : Int64) (x8 : Int64) (x10 : Int64) (x12 : Int64) (x14 : Int32) (win : Int32) (won : Int32) (whn : Int32) (wpl : Int32) (wdn : Int32) (wfo : Int32) (wmn : Int32) (wpn : Int32) (wbn : Int32) (wcn : Int32) (wat : Int32) (wnu : Int32) (af : Nat → Int32)  : ∀ (n : Nat) (x15 : Int32) (wlf : Nat → Int64), loop2 (b_Mo_sumOf_88 N aL x3 x4 x6 x8 x10 x12 x14 af ) n x15 wlf = some (r_z, wlf_z) → ∀ (H : Heap) (locs : List Loc), va_P (dC, dI) vwCl (wd_Mo_sumOf w wl a wi wo wh wd wm wp wb wc cB cI cJ aL win won whn wpl wdn wfo wmn wpn wbn wcn wat wnu wlf af) H → va_D A (wd_Mo_sumOf w wl a wi wo wh wd wm wp wb wc cB cI cJ aL win won whn wpl wdn wfo wmn wpn wbn wcn wat wnu wlf af) → va_S A s.heap H locs → ∀ (ls : Array Slot), lv_has ls 19 [(0, .ref w), (1, .ref a), (3, .int x3), (4, .long x4), (6, .long x6), (8, .long x8), (10, .long x10), (12, .long x12), (14, .int x14), (15, .int x15)] → W p l e rm_Mo_sumOf s m args below meth c H locs 0 0 (MQ below (sQl (dC, dI) vwCl [(cB, .byte), (cI, .int), (cJ, .long)] A r_z (wd_Mo_sumOf w wl a wi wo wh wd wm wp wb wc cB cI cJ aL win won whn wpl wdn wfo wmn wpn wbn wcn wat wnu wlf_z af)) args s 0 0 A) (F0 m 88 ls []) := by
  obtain ⟨hx, hb, hml, hown, hts, hr, hlocks, hZ⟩ := id C
  intro n
  induction n with
  | zero => intro x15 wlf hf; cases hf
  | succ n ih88 =>
    intro x15 wlf hf H locs hP hD hS ls hl
    have hf : b_Mo_sumOf_88 N aL x3 x4 x6 x8 x10 x12 x14 af  (loop2 (b_Mo_sumOf_88 N aL x3 x4 x6 x8 x10 x12 x14 af ) n) x15 wlf = some (r_z, wlf_z) := hf
    generalize loop2 (b_Mo_sumOf_88 N aL x3 x4 x6 x8 x10 x12 x14 af ) n = kh88 at hf ih88
    unfold b_Mo_sumOf_88 at hf
    refine lv_iload_n hx hb d_Mo_sumOf_88 rfl (lv_at hl 2 rfl) ?_
    refine lv_iload hx hb d_Mo_sumOf_89 (lv_at hl 9 rfl) ?_
    refine lv_isub hx hb d_Mo_sumOf_91 ?_
    refine lv_bipush (v := 16) hx hb d_Mo_sumOf_92 (by decide) ?_
    refine lv_icmp_lt (tgt := 158) hx hb d_Mo_sumOf_94 (by decide) (fun c_94 => ?_) (fun c_94 => ?_)
    · have hf := br_pos c_94 hf
      refine lv_aload_n hx hb d_Mo_sumOf_158 rfl (lv_at hl 0 rfl) ?_
      refine va_get (D := (dC, dI)) (ci := 7) (v := .ref wl) (C := R_Mo) (T := T_Mo) (N := 21) hx hb hts w_351 hown hK hP 0 rfl rfl 18 (by decide) (hts _ w_432) (fun _ h9 => h9) rfl d_Mo_sumOf_159 ?_
      refine lv_iconst (v := 0) hx hb d_Mo_sumOf_162 (by decide) ?_
      obtain ⟨h_in, hf⟩ := as_some hf
      refine va_lald hx hb hK hP 1 2 rfl rfl h_in d_Mo_sumOf_163 ?_
      refine lv_iconst (v := 1) hx hb d_Mo_sumOf_164 (by decide) ?_
      obtain ⟨r165, hc165, hf⟩ := bd1_some hf
      refine s_Sl (As := [.long (wlf (0 : Int32).toNatClampNeg), .int (1 : Int32)]) (rest := []) (wr := [(w, .inr (7, [.ref wi, .ref wo, .ref wh, .int win, .int won, .int whn, .int wpl, .ref wd, .int wdn, .int wfo, .ref wm, .int wmn, .ref wp, .int wpn, .ref wb, .int wbn, .ref wc, .int wcn, .ref wl, .int wat, .int wnu])), (wl, .inl (cJ, 4, .inr (.inl wlf))), (a, .inl (cI, aL, .inl af))]) (ws' := wd_Mo_sumOf w wl a wi wo wh wd wm wp wb wc cB cI cJ aL win won whn wpl wdn wfo wmn wpn wbn wcn wat wnu wlf af) C.call (c_Mo_turned l dC dI cB cI cJ    (wlf (0 : Int32).toNatClampNeg) (1 : Int32) hc165) (va_cwS 2 hts (gd_S w_426 w_427 w_357 w_428) rfl rfl rfl hd_Mo_turned ⟨Nat.le_of_ble_eq_true rfl, Nat.le_of_ble_eq_true rfl⟩) rfl hl.1 rfl (Nat.le_of_ble_eq_true rfl) d_Mo_sumOf_165 ⟨Nat.le_of_ble_eq_true rfl, Nat.le_of_ble_eq_true rfl⟩ hZ hK hP hD hS hA [] [0, 1, 2] [0, 1, 2] rfl rfl rfl rfl (by decide) rfl rfl (fun H locs hP hD hS => ?_)
      refine lv_aload_n hx hb d_Mo_sumOf_168 rfl (lv_at hl 0 rfl) ?_
      refine va_get (D := (dC, dI)) (ci := 7) (v := .ref wl) (C := R_Mo) (T := T_Mo) (N := 21) hx hb hts w_351 hown hK hP 0 rfl rfl 18 (by decide) (hts _ w_432) (fun _ h9 => h9) rfl d_Mo_sumOf_169 ?_
      refine lv_iconst (v := 1) hx hb d_Mo_sumOf_172 (by decide) ?_
      obtain ⟨h_in, hf⟩ := as_some hf
      refine va_lald hx hb hK hP 1 2 rfl rfl h_in d_Mo_sumOf_173 ?_
      refine lv_bipush (v := 7) hx hb d_Mo_sumOf_174 (by decide) ?_
      obtain ⟨r176, hc176, hf⟩ := bd1_some hf
      refine s_Sl (As := [.long (wlf (1 : Int32).toNatClampNeg), .int (7 : Int32)]) (rest := [.long r165]) (wr := [(w, .inr (7, [.ref wi, .ref wo, .ref wh, .int win, .int won, .int whn, .int wpl, .ref wd, .int wdn, .int wfo, .ref wm, .int wmn, .ref wp, .int wpn, .ref wb, .int wbn, .ref wc, .int wcn, .ref wl, .int wat, .int wnu])), (wl, .inl (cJ, 4, .inr (.inl wlf))), (a, .inl (cI, aL, .inl af))]) (ws' := wd_Mo_sumOf w wl a wi wo wh wd wm wp wb wc cB cI cJ aL win won whn wpl wdn wfo wmn wpn wbn wcn wat wnu wlf af) C.call (c_Mo_turned l dC dI cB cI cJ    (wlf (1 : Int32).toNatClampNeg) (7 : Int32) hc176) (va_cwS 2 hts (gd_S w_426 w_427 w_357 w_428) rfl rfl rfl hd_Mo_turned ⟨Nat.le_of_ble_eq_true rfl, Nat.le_of_ble_eq_true rfl⟩) rfl hl.1 rfl (Nat.le_of_ble_eq_true rfl) d_Mo_sumOf_176 ⟨Nat.le_of_ble_eq_true rfl, Nat.le_of_ble_eq_true rfl⟩ hZ hK hP hD hS hA [] [0, 1, 2] [0, 1, 2] rfl rfl rfl rfl (by decide) rfl rfl (fun H locs hP hD hS => ?_)
      refine lv_ladd hx hb d_Mo_sumOf_179 ?_
      refine lv_aload_n hx hb d_Mo_sumOf_180 rfl (lv_at hl 0 rfl) ?_
      refine va_get (D := (dC, dI)) (ci := 7) (v := .ref wl) (C := R_Mo) (T := T_Mo) (N := 21) hx hb hts w_351 hown hK hP 0 rfl rfl 18 (by decide) (hts _ w_432) (fun _ h9 => h9) rfl d_Mo_sumOf_181 ?_
      refine lv_iconst (v := 2) hx hb d_Mo_sumOf_184 (by decide) ?_
      obtain ⟨h_in, hf⟩ := as_some hf
      refine va_lald hx hb hK hP 1 2 rfl rfl h_in d_Mo_sumOf_185 ?_
      refine lv_bipush (v := 12) hx hb d_Mo_sumOf_186 (by decide) ?_
      obtain ⟨r188, hc188, hf⟩ := bd1_some hf
      refine s_Sl (As := [.long (wlf (2 : Int32).toNatClampNeg), .int (12 : Int32)]) (rest := [.long (r165 + r176)]) (wr := [(w, .inr (7, [.ref wi, .ref wo, .ref wh, .int win, .int won, .int whn, .int wpl, .ref wd, .int wdn, .int wfo, .ref wm, .int wmn, .ref wp, .int wpn, .ref wb, .int wbn, .ref wc, .int wcn, .ref wl, .int wat, .int wnu])), (wl, .inl (cJ, 4, .inr (.inl wlf))), (a, .inl (cI, aL, .inl af))]) (ws' := wd_Mo_sumOf w wl a wi wo wh wd wm wp wb wc cB cI cJ aL win won whn wpl wdn wfo wmn wpn wbn wcn wat wnu wlf af) C.call (c_Mo_turned l dC dI cB cI cJ    (wlf (2 : Int32).toNatClampNeg) (12 : Int32) hc188) (va_cwS 2 hts (gd_S w_426 w_427 w_357 w_428) rfl rfl rfl hd_Mo_turned ⟨Nat.le_of_ble_eq_true rfl, Nat.le_of_ble_eq_true rfl⟩) rfl hl.1 rfl (Nat.le_of_ble_eq_true rfl) d_Mo_sumOf_188 ⟨Nat.le_of_ble_eq_true rfl, Nat.le_of_ble_eq_true rfl⟩ hZ hK hP hD hS hA [] [0, 1, 2] [0, 1, 2] rfl rfl rfl rfl (by decide) rfl rfl (fun H locs hP hD hS => ?_)
      refine lv_ladd hx hb d_Mo_sumOf_191 ?_
      refine lv_aload_n hx hb d_Mo_sumOf_192 rfl (lv_at hl 0 rfl) ?_
      refine va_get (D := (dC, dI)) (ci := 7) (v := .ref wl) (C := R_Mo) (T := T_Mo) (N := 21) hx hb hts w_351 hown hK hP 0 rfl rfl 18 (by decide) (hts _ w_432) (fun _ h9 => h9) rfl d_Mo_sumOf_193 ?_
      refine lv_iconst (v := 3) hx hb d_Mo_sumOf_196 (by decide) ?_
      obtain ⟨h_in, hf⟩ := as_some hf
      refine va_lald hx hb hK hP 1 2 rfl rfl h_in d_Mo_sumOf_197 ?_
      refine lv_bipush (v := 18) hx hb d_Mo_sumOf_198 (by decide) ?_
      obtain ⟨r200, hc200, hf⟩ := bd1_some hf
      refine s_Sl (As := [.long (wlf (3 : Int32).toNatClampNeg), .int (18 : Int32)]) (rest := [.long ((r165 + r176) + r188)]) (wr := [(w, .inr (7, [.ref wi, .ref wo, .ref wh, .int win, .int won, .int whn, .int wpl, .ref wd, .int wdn, .int wfo, .ref wm, .int wmn, .ref wp, .int wpn, .ref wb, .int wbn, .ref wc, .int wcn, .ref wl, .int wat, .int wnu])), (wl, .inl (cJ, 4, .inr (.inl wlf))), (a, .inl (cI, aL, .inl af))]) (ws' := wd_Mo_sumOf w wl a wi wo wh wd wm wp wb wc cB cI cJ aL win won whn wpl wdn wfo wmn wpn wbn wcn wat wnu wlf af) C.call (c_Mo_turned l dC dI cB cI cJ    (wlf (3 : Int32).toNatClampNeg) (18 : Int32) hc200) (va_cwS 2 hts (gd_S w_426 w_427 w_357 w_428) rfl rfl rfl hd_Mo_turned ⟨Nat.le_of_ble_eq_true rfl, Nat.le_of_ble_eq_true rfl⟩) rfl hl.1 rfl (Nat.le_of_ble_eq_true rfl) d_Mo_sumOf_200 ⟨Nat.le_of_ble_eq_true rfl, Nat.le_of_ble_eq_true rfl⟩ hZ hK hP hD hS hA [] [0, 1, 2] [0, 1, 2] rfl rfl rfl rfl (by decide) rfl rfl (fun H locs hP hD hS => ?_)
      refine lv_ladd hx hb d_Mo_sumOf_203 ?_
      refine lv_ldc2 (v := 4294967295) hx hb hown (hts _ w_417) d_Mo_sumOf_204 ?_
      refine lv_land hx hb d_Mo_sumOf_207 ?_
      refine lv_lstore (lv' := [(16, .long ((((r165 + r176) + r188) + r200) &&& (4294967295 : Int64))), (0, .ref w), (1, .ref a), (3, .int x3), (4, .long x4), (6, .long x6), (8, .long x8), (10, .long x10), (12, .long x12), (14, .int x14), (15, .int x15)]) hx hb d_Mo_sumOf_208 hl (by decide) rfl (fun ls hl => ?_)
      exact k_Mo_sumOf_210 C hK hA x3 x4 x6 x8 x10 x12 x14 x15 ((((r165 + r176) + r188) + r200) &&& (4294967295 : Int64)) win won whn wpl wdn wfo wmn wpn wbn wcn wat wnu wlf af  hf hP hD hS (lv_sub hl [2, 3, 4, 5, 6, 7, 8, 9, 10, 0] rfl)
    · have hf := br_neg c_94 hf
      refine lv_iconst (v := 0) hx hb d_Mo_sumOf_97 (by decide) ?_
      refine lv_istore (lv' := [(18, .int (0 : Int32)), (0, .ref w), (1, .ref a), (3, .int x3), (4, .long x4), (6, .long x6), (8, .long x8), (10, .long x10), (12, .long x12), (14, .int x14), (15, .int x15)]) hx hb d_Mo_sumOf_98 hl (by decide) rfl (fun ls hl => ?_)
      exact k_Mo_sumOf_100 C hK hA x3 x4 x6 x8 x10 x12 x14 win won whn wpl wdn wfo wmn wpn wbn wcn wat wnu af kh88 ih88 N x15 (0 : Int32) wlf hf _ _ hP hD hS _ (lv_sub hl [1, 2, 3, 4, 5, 6, 7, 8, 9, 10, 0] rfl)
noncomputable def j_Mo_sumOf_0 (N : Nat) (aL : Nat) (x2 : Int32) (x3 : Int32) (wlf : Nat → Int64) (af : Nat → Int32)  : Option (Int64 × (Nat → Int64)) :=
  (if (x3 - x2) < (16 : Int32) then (j_Mo_sumOf_210 N aL x3 (2654435761 : Int64) (2246822519 : Int64) (3266489917 : Int64) (668265263 : Int64) (374761393 : Int64) (x3 - x2) x2 (374761393 : Int64) wlf af ) else as_ (vp_in (0 : Int32) 4) (as_ (vp_in (1 : Int32) 4) (as_ (vp_in (2 : Int32) 4) (as_ (vp_in (3 : Int32) 4) ((loop2 (b_Mo_sumOf_88 N aL x3 (2654435761 : Int64) (2246822519 : Int64) (3266489917 : Int64) (668265263 : Int64) (374761393 : Int64) (x3 - x2) af ) N x2 (vp_updL (vp_updL (vp_updL (vp_updL wlf (0 : Int32).toNatClampNeg (((2654435761 : Int64) + (2246822519 : Int64)) &&& (4294967295 : Int64))) (1 : Int32).toNatClampNeg (2246822519 : Int64)) (2 : Int32).toNatClampNeg (0 : Int64)) (3 : Int32).toNatClampNeg (((0 : Int64) - (2654435761 : Int64)) &&& (4294967295 : Int64)))))))))
set_option maxHeartbeats 4000000 in
set_option maxRecDepth 100000 in
theorem k_Mo_sumOf_0 {r_z : Int64} {wlf_z : Nat → Int64} (C : Fx p s m args meth c cd_Mo_sumOf 19 R_Mo lw_g (some .long)) (hK : va_K (dC, dI) vwCl [(cB, .byte), (cI, .int), (cJ, .long)] s) (hA : ∀ q, s.heap.size ≤ q → A q) (x2 : Int32) (x3 : Int32) (win : Int32) (won : Int32) (whn : Int32) (wpl : Int32) (wdn : Int32) (wfo : Int32) (wmn : Int32) (wpn : Int32) (wbn : Int32) (wcn : Int32) (wat : Int32) (wnu : Int32) (wlf : Nat → Int64) (af : Nat → Int32)  (hf : j_Mo_sumOf_0 N aL x2 x3 wlf af  = some (r_z, wlf_z)) (hP : va_P (dC, dI) vwCl (wd_Mo_sumOf w wl a wi wo wh wd wm wp wb wc cB cI cJ aL win won whn wpl wdn wfo wmn wpn wbn wcn wat wnu wlf af) H) (hD : va_D A (wd_Mo_sumOf w wl a wi wo wh wd wm wp wb wc cB cI cJ aL win won whn wpl wdn wfo wmn wpn wbn wcn wat wnu wlf af)) (hS : va_S A s.heap H locs) (hl : lv_has ls 19 [(0, .ref w), (1, .ref a), (2, .int x2), (3, .int x3)]) : W p l e rm_Mo_sumOf s m args below meth c H locs 0 0 (MQ below (sQl (dC, dI) vwCl [(cB, .byte), (cI, .int), (cJ, .long)] A r_z (wd_Mo_sumOf w wl a wi wo wh wd wm wp wb wc cB cI cJ aL win won whn wpl wdn wfo wmn wpn wbn wcn wat wnu wlf_z af)) args s 0 0 A) (F0 m 0 ls []) := by
  obtain ⟨hx, hb, hml, hown, hts, hr, hlocks, hZ⟩ := id C
  unfold j_Mo_sumOf_0 at hf
  refine lv_ldc2 (v := 2654435761) hx hb hown (hts _ w_418) d_Mo_sumOf_0 ?_
  refine lv_lstore (lv' := [(4, .long (2654435761 : Int64)), (0, .ref w), (1, .ref a), (2, .int x2), (3, .int x3)]) hx hb d_Mo_sumOf_3 hl (by decide) rfl (fun ls hl => ?_)
  refine lv_ldc2 (v := 2246822519) hx hb hown (hts _ w_419) d_Mo_sumOf_5 ?_
  refine lv_lstore (lv' := [(6, .long (2246822519 : Int64)), (4, .long (2654435761 : Int64)), (0, .ref w), (1, .ref a), (2, .int x2), (3, .int x3)]) hx hb d_Mo_sumOf_8 hl (by decide) rfl (fun ls hl => ?_)
  refine lv_ldc2 (v := 3266489917) hx hb hown (hts _ w_420) d_Mo_sumOf_10 ?_
  refine lv_lstore (lv' := [(8, .long (3266489917 : Int64)), (6, .long (2246822519 : Int64)), (4, .long (2654435761 : Int64)), (0, .ref w), (1, .ref a), (2, .int x2), (3, .int x3)]) hx hb d_Mo_sumOf_13 hl (by decide) rfl (fun ls hl => ?_)
  refine lv_ldc2 (v := 668265263) hx hb hown (hts _ w_421) d_Mo_sumOf_15 ?_
  refine lv_lstore (lv' := [(10, .long (668265263 : Int64)), (8, .long (3266489917 : Int64)), (6, .long (2246822519 : Int64)), (4, .long (2654435761 : Int64)), (0, .ref w), (1, .ref a), (2, .int x2), (3, .int x3)]) hx hb d_Mo_sumOf_18 hl (by decide) rfl (fun ls hl => ?_)
  refine lv_ldc2 (v := 374761393) hx hb hown (hts _ w_422) d_Mo_sumOf_20 ?_
  refine lv_lstore (lv' := [(12, .long (374761393 : Int64)), (10, .long (668265263 : Int64)), (8, .long (3266489917 : Int64)), (6, .long (2246822519 : Int64)), (4, .long (2654435761 : Int64)), (0, .ref w), (1, .ref a), (2, .int x2), (3, .int x3)]) hx hb d_Mo_sumOf_23 hl (by decide) rfl (fun ls hl => ?_)
  refine lv_iload_n hx hb d_Mo_sumOf_25 rfl (lv_at hl 8 rfl) ?_
  refine lv_iload_n hx hb d_Mo_sumOf_26 rfl (lv_at hl 7 rfl) ?_
  refine lv_isub hx hb d_Mo_sumOf_27 ?_
  refine lv_istore (lv' := [(14, .int (x3 - x2)), (12, .long (374761393 : Int64)), (10, .long (668265263 : Int64)), (8, .long (3266489917 : Int64)), (6, .long (2246822519 : Int64)), (4, .long (2654435761 : Int64)), (0, .ref w), (1, .ref a), (2, .int x2), (3, .int x3)]) hx hb d_Mo_sumOf_28 hl (by decide) rfl (fun ls hl => ?_)
  refine lv_iload_n hx hb d_Mo_sumOf_30 rfl (lv_at hl 8 rfl) ?_
  refine lv_istore (lv' := [(15, .int x2), (14, .int (x3 - x2)), (12, .long (374761393 : Int64)), (10, .long (668265263 : Int64)), (8, .long (3266489917 : Int64)), (6, .long (2246822519 : Int64)), (4, .long (2654435761 : Int64)), (0, .ref w), (1, .ref a), (2, .int x2), (3, .int x3)]) hx hb d_Mo_sumOf_31 hl (by decide) rfl (fun ls hl => ?_)
  refine lv_lload hx hb d_Mo_sumOf_33 (lv_at hl 2 rfl) ?_
  refine lv_lstore (lv' := [(16, .long (374761393 : Int64)), (15, .int x2), (14, .int (x3 - x2)), (12, .long (374761393 : Int64)), (10, .long (668265263 : Int64)), (8, .long (3266489917 : Int64)), (6, .long (2246822519 : Int64)), (4, .long (2654435761 : Int64)), (0, .ref w), (1, .ref a), (2, .int x2), (3, .int x3)]) hx hb d_Mo_sumOf_35 hl (by decide) rfl (fun ls hl => ?_)
  refine lv_iload hx hb d_Mo_sumOf_37 (lv_at hl 2 rfl) ?_
  refine lv_bipush (v := 16) hx hb d_Mo_sumOf_39 (by decide) ?_
  refine lv_icmp_lt (tgt := 210) hx hb d_Mo_sumOf_41 (by decide) (fun c_41 => ?_) (fun c_41 => ?_)
  · have hf := br_pos c_41 hf
    exact k_Mo_sumOf_210 C hK hA x3 (2654435761 : Int64) (2246822519 : Int64) (3266489917 : Int64) (668265263 : Int64) (374761393 : Int64) (x3 - x2) x2 (374761393 : Int64) win won whn wpl wdn wfo wmn wpn wbn wcn wat wnu wlf af  hf hP hD hS (lv_sub hl [9, 11, 7, 6, 5, 4, 3, 2, 1, 0] rfl)
  · have hf := br_neg c_41 hf
    refine lv_aload_n hx hb d_Mo_sumOf_44 rfl (lv_at hl 8 rfl) ?_
    refine va_get (D := (dC, dI)) (ci := 7) (v := .ref wl) (C := R_Mo) (T := T_Mo) (N := 21) hx hb hts w_351 hown hK hP 0 rfl rfl 18 (by decide) (hts _ w_432) (fun _ h9 => h9) rfl d_Mo_sumOf_45 ?_
    refine lv_iconst (v := 0) hx hb d_Mo_sumOf_48 (by decide) ?_
    refine lv_lload hx hb d_Mo_sumOf_49 (lv_at hl 7 rfl) ?_
    refine lv_lload hx hb d_Mo_sumOf_51 (lv_at hl 6 rfl) ?_
    refine lv_ladd hx hb d_Mo_sumOf_53 ?_
    refine lv_ldc2 (v := 4294967295) hx hb hown (hts _ w_417) d_Mo_sumOf_54 ?_
    refine lv_land hx hb d_Mo_sumOf_57 ?_
    obtain ⟨h_in, hf⟩ := as_some hf
    refine va_last hx hb hK hP hD hS 1 2 rfl rfl h_in d_Mo_sumOf_58 (fun H locs hP hD hS => ?_)
    have hP : va_P (dC, dI) vwCl (wd_Mo_sumOf w wl a wi wo wh wd wm wp wb wc cB cI cJ aL win won whn wpl wdn wfo wmn wpn wbn wcn wat wnu (vp_updL wlf (0 : Int32).toNatClampNeg (((2654435761 : Int64) + (2246822519 : Int64)) &&& (4294967295 : Int64))) af) H := hP
    have hD : va_D A (wd_Mo_sumOf w wl a wi wo wh wd wm wp wb wc cB cI cJ aL win won whn wpl wdn wfo wmn wpn wbn wcn wat wnu (vp_updL wlf (0 : Int32).toNatClampNeg (((2654435761 : Int64) + (2246822519 : Int64)) &&& (4294967295 : Int64))) af) := hD
    refine lv_aload_n hx hb d_Mo_sumOf_59 rfl (lv_at hl 8 rfl) ?_
    refine va_get (D := (dC, dI)) (ci := 7) (v := .ref wl) (C := R_Mo) (T := T_Mo) (N := 21) hx hb hts w_351 hown hK hP 0 rfl rfl 18 (by decide) (hts _ w_432) (fun _ h9 => h9) rfl d_Mo_sumOf_60 ?_
    refine lv_iconst (v := 1) hx hb d_Mo_sumOf_63 (by decide) ?_
    refine lv_lload hx hb d_Mo_sumOf_64 (lv_at hl 6 rfl) ?_
    obtain ⟨h_in, hf⟩ := as_some hf
    refine va_last hx hb hK hP hD hS 1 2 rfl rfl h_in d_Mo_sumOf_66 (fun H locs hP hD hS => ?_)
    have hP : va_P (dC, dI) vwCl (wd_Mo_sumOf w wl a wi wo wh wd wm wp wb wc cB cI cJ aL win won whn wpl wdn wfo wmn wpn wbn wcn wat wnu (vp_updL (vp_updL wlf (0 : Int32).toNatClampNeg (((2654435761 : Int64) + (2246822519 : Int64)) &&& (4294967295 : Int64))) (1 : Int32).toNatClampNeg (2246822519 : Int64)) af) H := hP
    have hD : va_D A (wd_Mo_sumOf w wl a wi wo wh wd wm wp wb wc cB cI cJ aL win won whn wpl wdn wfo wmn wpn wbn wcn wat wnu (vp_updL (vp_updL wlf (0 : Int32).toNatClampNeg (((2654435761 : Int64) + (2246822519 : Int64)) &&& (4294967295 : Int64))) (1 : Int32).toNatClampNeg (2246822519 : Int64)) af) := hD
    refine lv_aload_n hx hb d_Mo_sumOf_67 rfl (lv_at hl 8 rfl) ?_
    refine va_get (D := (dC, dI)) (ci := 7) (v := .ref wl) (C := R_Mo) (T := T_Mo) (N := 21) hx hb hts w_351 hown hK hP 0 rfl rfl 18 (by decide) (hts _ w_432) (fun _ h9 => h9) rfl d_Mo_sumOf_68 ?_
    refine lv_iconst (v := 2) hx hb d_Mo_sumOf_71 (by decide) ?_
    refine lv_lconst (v := 0) hx hb d_Mo_sumOf_72 (by decide) ?_
    obtain ⟨h_in, hf⟩ := as_some hf
    refine va_last hx hb hK hP hD hS 1 2 rfl rfl h_in d_Mo_sumOf_73 (fun H locs hP hD hS => ?_)
    have hP : va_P (dC, dI) vwCl (wd_Mo_sumOf w wl a wi wo wh wd wm wp wb wc cB cI cJ aL win won whn wpl wdn wfo wmn wpn wbn wcn wat wnu (vp_updL (vp_updL (vp_updL wlf (0 : Int32).toNatClampNeg (((2654435761 : Int64) + (2246822519 : Int64)) &&& (4294967295 : Int64))) (1 : Int32).toNatClampNeg (2246822519 : Int64)) (2 : Int32).toNatClampNeg (0 : Int64)) af) H := hP
    have hD : va_D A (wd_Mo_sumOf w wl a wi wo wh wd wm wp wb wc cB cI cJ aL win won whn wpl wdn wfo wmn wpn wbn wcn wat wnu (vp_updL (vp_updL (vp_updL wlf (0 : Int32).toNatClampNeg (((2654435761 : Int64) + (2246822519 : Int64)) &&& (4294967295 : Int64))) (1 : Int32).toNatClampNeg (2246822519 : Int64)) (2 : Int32).toNatClampNeg (0 : Int64)) af) := hD
    refine lv_aload_n hx hb d_Mo_sumOf_74 rfl (lv_at hl 8 rfl) ?_
    refine va_get (D := (dC, dI)) (ci := 7) (v := .ref wl) (C := R_Mo) (T := T_Mo) (N := 21) hx hb hts w_351 hown hK hP 0 rfl rfl 18 (by decide) (hts _ w_432) (fun _ h9 => h9) rfl d_Mo_sumOf_75 ?_
    refine lv_iconst (v := 3) hx hb d_Mo_sumOf_78 (by decide) ?_
    refine lv_lconst (v := 0) hx hb d_Mo_sumOf_79 (by decide) ?_
    refine lv_lload hx hb d_Mo_sumOf_80 (lv_at hl 7 rfl) ?_
    refine lv_lsub hx hb d_Mo_sumOf_82 ?_
    refine lv_ldc2 (v := 4294967295) hx hb hown (hts _ w_417) d_Mo_sumOf_83 ?_
    refine lv_land hx hb d_Mo_sumOf_86 ?_
    obtain ⟨h_in, hf⟩ := as_some hf
    refine va_last hx hb hK hP hD hS 1 2 rfl rfl h_in d_Mo_sumOf_87 (fun H locs hP hD hS => ?_)
    have hP : va_P (dC, dI) vwCl (wd_Mo_sumOf w wl a wi wo wh wd wm wp wb wc cB cI cJ aL win won whn wpl wdn wfo wmn wpn wbn wcn wat wnu (vp_updL (vp_updL (vp_updL (vp_updL wlf (0 : Int32).toNatClampNeg (((2654435761 : Int64) + (2246822519 : Int64)) &&& (4294967295 : Int64))) (1 : Int32).toNatClampNeg (2246822519 : Int64)) (2 : Int32).toNatClampNeg (0 : Int64)) (3 : Int32).toNatClampNeg (((0 : Int64) - (2654435761 : Int64)) &&& (4294967295 : Int64))) af) H := hP
    have hD : va_D A (wd_Mo_sumOf w wl a wi wo wh wd wm wp wb wc cB cI cJ aL win won whn wpl wdn wfo wmn wpn wbn wcn wat wnu (vp_updL (vp_updL (vp_updL (vp_updL wlf (0 : Int32).toNatClampNeg (((2654435761 : Int64) + (2246822519 : Int64)) &&& (4294967295 : Int64))) (1 : Int32).toNatClampNeg (2246822519 : Int64)) (2 : Int32).toNatClampNeg (0 : Int64)) (3 : Int32).toNatClampNeg (((0 : Int64) - (2654435761 : Int64)) &&& (4294967295 : Int64))) af) := hD
    exact k_Mo_sumOf_88 C hK hA x3 (2654435761 : Int64) (2246822519 : Int64) (3266489917 : Int64) (668265263 : Int64) (374761393 : Int64) (x3 - x2) win won whn wpl wdn wfo wmn wpn wbn wcn wat wnu af  N x2 (vp_updL (vp_updL (vp_updL (vp_updL wlf (0 : Int32).toNatClampNeg (((2654435761 : Int64) + (2246822519 : Int64)) &&& (4294967295 : Int64))) (1 : Int32).toNatClampNeg (2246822519 : Int64)) (2 : Int32).toNatClampNeg (0 : Int64)) (3 : Int32).toNatClampNeg (((0 : Int64) - (2654435761 : Int64)) &&& (4294967295 : Int64))) hf _ _ hP hD hS _ (lv_sub hl [8, 9, 11, 7, 6, 5, 4, 3, 2, 1] rfl)
end
noncomputable abbrev f_Mo_sumOf (N : Nat) (aL : Nat) (x2 : Int32) (x3 : Int32) (wlf : Nat → Int64) (af : Nat → Int32) : Option (Int64 × (Nat → Int64)) := j_Mo_sumOf_0 N aL x2 x3 wlf af
set_option maxRecDepth 100000 in
theorem c_Mo_sumOf {N : Nat} (l : Launch) (dC : Nat → ClassId) (dI : Nat → Nat → Nat) (cB cI cJ : ClassId) (w wl a wi wo wh wd wm wp wb wc aL : Nat) (win : Int32) (won : Int32) (whn : Int32) (wpl : Int32) (wdn : Int32) (wfo : Int32) (wmn : Int32) (wpn : Int32) (wbn : Int32) (wcn : Int32) (wat : Int32) (wnu : Int32) (wlf : Nat → Int64) (af : Nat → Int32) (x2 : Int32) (x3 : Int32) {r_z : Int64} {wlf_z : Nat → Int64} (hf : f_Mo_sumOf N aL x2 x3 wlf af = some (r_z, wlf_z)) : MetL l y_Mo_sumOf ws_Mo_sumOf rm_Mo_sumOf (dC, dI) vwCl [(cB, .byte), (cI, .int), (cJ, .long)] [.ref w, .ref a, .int x2, .int x3] (wd_Mo_sumOf w wl a wi wo wh wd wm wp wb wc cB cI cJ aL win won whn wpl wdn wfo wmn wpn wbn wcn wat wnu wlf af) r_z (wd_Mo_sumOf w wl a wi wo wh wd wm wp wb wc cB cI cJ aL win won whn wpl wdn wfo wmn wpn wbn wcn wat wnu wlf_z af) 0 0 :=
  s_ofl (bytes := cd_Mo_sumOf) (maxL := 19) (ret := (some .long)) (by decide) rfl (Nat.le_of_ble_eq_true rfl) (fun p e s m below meth c A ls C hK hA hP hD hS hl => k_Mo_sumOf_0 C hK hA x2 x3 win won whn wpl wdn wfo wmn wpn wbn wcn wat wnu wlf af hf hP hD hS (lv_sub hl [0, 1, 2, 3] rfl))

abbrev wd_Mo_frame (w wi wo wh wd wm wp wl wb wc : Nat) (cB cI cJ : ClassId) (win : Int32) (won : Int32) (whn : Int32) (wpl : Int32) (wdn : Int32) (wfo : Int32) (wmn : Int32) (wpn : Int32) (wbn : Int32) (wcn : Int32) (wat : Int32) (wnu : Int32) (wif : Nat → Int32) (wof : Nat → Int32) (whf : Nat → Int32) (wdf : Nat → Int32) (wmf : Nat → Int32) (wpf : Nat → Int32) (wlf : Nat → Int64) : va_W := [(w, .inr (7, [.ref wi, .ref wo, .ref wh, .int win, .int won, .int whn, .int wpl, .ref wd, .int wdn, .int wfo, .ref wm, .int wmn, .ref wp, .int wpn, .ref wb, .int wbn, .ref wc, .int wcn, .ref wl, .int wat, .int wnu])), (wi, .inl (cI, 8000, .inl wif)), (wo, .inl (cI, 8000, .inl wof)), (wh, .inl (cI, 8000, .inl whf)), (wd, .inl (cI, 16000, .inl wdf)), (wm, .inl (cI, 9000, .inl wmf)), (wp, .inl (cI, 9000, .inl wpf)), (wl, .inl (cJ, 4, .inr (.inl wlf)))]
abbrev rm_Mo_frame : Room := { frames := 4, cells := 0, slots := 0, locals := 100 }
section
variable {p : Program} {l : Launch} {e : Env} {s : State} {m : MethodId} {args : Array Value} {below : List Frame} {meth : Method} {c : Code} {dC : Nat → ClassId} {dI : Nat → Nat → Nat} {A : Nat → Prop} {cB cI cJ : ClassId} {H : Heap} {locs : List Loc} {ls : Array Slot} {N : Nat} {w wi wo wh wd wm wp wl wb wc : Nat}
noncomputable def j_Mo_frame_382 (N : Nat) (won : Int32) (wdn : Int32) (wfo : Int32) (wmn : Int32) (wpn : Int32) (wof : Nat → Int32) (wdf : Nat → Int32) (wmf : Nat → Int32) (wpf : Nat → Int32) (wlf : Nat → Int64)  : Option (Int32 × Int32 × Int32 × Int32 × Int32 × Int32 × (Nat → Int32) × (Nat → Int32) × (Nat → Int32) × (Nat → Int32) × (Nat → Int64)) :=
  bd3 (f_Mo_show N 9000 wmn won wof wmf) (fun r391 won_391 wof_391 => (some (r391, won_391, wdn, wfo, wmn, wpn, wof_391, wdf, wmf, wpf, wlf) : Option (Int32 × Int32 × Int32 × Int32 × Int32 × Int32 × (Nat → Int32) × (Nat → Int32) × (Nat → Int32) × (Nat → Int32) × (Nat → Int64))))
set_option maxHeartbeats 4000000 in
set_option maxRecDepth 100000 in
theorem k_Mo_frame_382 {r_z : Int32} {won_z : Int32} {wdn_z : Int32} {wfo_z : Int32} {wmn_z : Int32} {wpn_z : Int32} {wof_z : Nat → Int32} {wdf_z : Nat → Int32} {wmf_z : Nat → Int32} {wpf_z : Nat → Int32} {wlf_z : Nat → Int64} (C : Fx p s m args meth c cd_Mo_frame 12 R_Mo lw_g (some .int)) (hK : va_K (dC, dI) vwCl [(cB, .byte), (cI, .int), (cJ, .long)] s) (hA : ∀ q, s.heap.size ≤ q → A q) (win : Int32) (won : Int32) (whn : Int32) (wpl : Int32) (wdn : Int32) (wfo : Int32) (wmn : Int32) (wpn : Int32) (wbn : Int32) (wcn : Int32) (wat : Int32) (wnu : Int32) (wif : Nat → Int32) (wof : Nat → Int32) (whf : Nat → Int32) (wdf : Nat → Int32) (wmf : Nat → Int32) (wpf : Nat → Int32) (wlf : Nat → Int64)  (hf : j_Mo_frame_382 N won wdn wfo wmn wpn wof wdf wmf wpf wlf  = some (r_z, won_z, wdn_z, wfo_z, wmn_z, wpn_z, wof_z, wdf_z, wmf_z, wpf_z, wlf_z)) (hP : va_P (dC, dI) vwCl (wd_Mo_frame w wi wo wh wd wm wp wl wb wc cB cI cJ win won whn wpl wdn wfo wmn wpn wbn wcn wat wnu wif wof whf wdf wmf wpf wlf) H) (hD : va_D A (wd_Mo_frame w wi wo wh wd wm wp wl wb wc cB cI cJ win won whn wpl wdn wfo wmn wpn wbn wcn wat wnu wif wof whf wdf wmf wpf wlf)) (hS : va_S A s.heap H locs) (hl : lv_has ls 12 [(0, .ref w)]) : W p l e rm_Mo_frame s m args below meth c H locs 0 0 (MQ below (sQi (dC, dI) vwCl [(cB, .byte), (cI, .int), (cJ, .long)] A r_z (wd_Mo_frame w wi wo wh wd wm wp wl wb wc cB cI cJ win won_z whn wpl wdn_z wfo_z wmn_z wpn_z wbn wcn wat wnu wif wof_z whf wdf_z wmf_z wpf_z wlf_z)) args s 0 0 A) (F0 m 382 ls []) := by
  obtain ⟨hx, hb, hml, hown, hts, hr, hlocks, hZ⟩ := id C
  unfold j_Mo_frame_382 at hf
  refine lv_aload_n hx hb d_Mo_frame_382 rfl (lv_at hl 0 rfl) ?_
  refine lv_aload_n hx hb d_Mo_frame_383 rfl (lv_at hl 0 rfl) ?_
  refine va_get (D := (dC, dI)) (ci := 7) (v := .ref wm) (C := R_Mo) (T := T_Mo) (N := 21) hx hb hts w_351 hown hK hP 0 rfl rfl 10 (by decide) (hts _ w_411) (fun _ h9 => h9) rfl d_Mo_frame_384 ?_
  refine lv_aload_n hx hb d_Mo_frame_387 rfl (lv_at hl 0 rfl) ?_
  refine va_get (D := (dC, dI)) (ci := 7) (v := .int wmn) (C := R_Mo) (T := T_Mo) (N := 21) hx hb hts w_351 hown hK hP 0 rfl rfl 11 (by decide) (hts _ w_410) (fun _ h9 => h9) rfl d_Mo_frame_388 ?_
  obtain ⟨r391, won_391, wof_391, hc391, hf⟩ := bd3_some hf
  refine s_Vi (As := [.ref wm, .int wmn]) (rest := []) (wr := [(wi, .inl (cI, 8000, .inl wif)), (wh, .inl (cI, 8000, .inl whf)), (wd, .inl (cI, 16000, .inl wdf)), (wp, .inl (cI, 9000, .inl wpf)), (wl, .inl (cJ, 4, .inr (.inl wlf)))]) (ws' := wd_Mo_frame w wi wo wh wd wm wp wl wb wc cB cI cJ win won_391 whn wpl wdn wfo wmn wpn wbn wcn wat wnu wif wof_391 whf wdf wmf wpf wlf) C.call (c_Mo_show l dC dI cB cI cJ w wo wm wi wh wd wm wp wb wc wl 9000 win won whn wpl wdn wfo wmn wpn wbn wcn wat wnu wof wmf wmn hc391) (cwV 2 hts (gd_V w_405 w_406 w_407 w_357 w_408) rfl rfl rfl ⟨rfl, hd_Mo_show⟩ ⟨Nat.le_of_ble_eq_true rfl, Nat.le_of_ble_eq_true rfl⟩) rfl hl.1 rfl (Nat.le_of_ble_eq_true rfl) d_Mo_frame_391 ⟨Nat.le_of_ble_eq_true rfl, Nat.le_of_ble_eq_true rfl⟩ hZ hK hP hD hS hA 7 0 rfl rfl [0, 2, 5] [1, 3, 4, 6, 7] [5, 0, 6, 1, 2, 7, 3, 4] rfl rfl rfl rfl (by decide) rfl rfl (fun H locs hP hD hS => ?_)
  cases hf
  exact s_iret hx hb hr hlocks hP hK hD hS d_Mo_frame_394
noncomputable def j_Mo_frame_342 (x4 : Int32) (x6 : Int32) (wdn : Int32) (wfo : Int32) (wmn : Int32) (wpn : Int32) (wdf : Nat → Int32) (wmf : Nat → Int32) (wpf : Nat → Int32) (wlf : Nat → Int64) (kh134 : Int32 → Int32 → Int32 → Int32 → Int32 → (Nat → Int32) → (Nat → Int32) → (Nat → Int32) → (Nat → Int64) → Option (Int32 × Int32 × Int32 × Int32 × Int32 × Int32 × (Nat → Int32) × (Nat → Int32) × (Nat → Int32) × (Nat → Int32) × (Nat → Int64))) : Option (Int32 × Int32 × Int32 × Int32 × Int32 × Int32 × (Nat → Int32) × (Nat → Int32) × (Nat → Int32) × (Nat → Int32) × (Nat → Int64)) :=
  (kh134 (x6 + x4) wdn wfo wmn wpn wdf wmf wpf wlf)
set_option maxHeartbeats 4000000 in
set_option maxRecDepth 100000 in
theorem k_Mo_frame_342 {r_z : Int32} {won_z : Int32} {wdn_z : Int32} {wfo_z : Int32} {wmn_z : Int32} {wpn_z : Int32} {wof_z : Nat → Int32} {wdf_z : Nat → Int32} {wmf_z : Nat → Int32} {wpf_z : Nat → Int32} {wlf_z : Nat → Int64} (C : Fx p s m args meth c cd_Mo_frame 12 R_Mo lw_g (some .int)) (hK : va_K (dC, dI) vwCl [(cB, .byte), (cI, .int), (cJ, .long)] s) (hA : ∀ q, s.heap.size ≤ q → A q) (x1 : Int32) (x4 : Int32) (x5 : Int32) (x6 : Int32) (win : Int32) (won : Int32) (whn : Int32) (wpl : Int32) (wdn : Int32) (wfo : Int32) (wmn : Int32) (wpn : Int32) (wbn : Int32) (wcn : Int32) (wat : Int32) (wnu : Int32) (wif : Nat → Int32) (wof : Nat → Int32) (whf : Nat → Int32) (wdf : Nat → Int32) (wmf : Nat → Int32) (wpf : Nat → Int32) (wlf : Nat → Int64) (kh134 : Int32 → Int32 → Int32 → Int32 → Int32 → (Nat → Int32) → (Nat → Int32) → (Nat → Int32) → (Nat → Int64) → Option (Int32 × Int32 × Int32 × Int32 × Int32 × Int32 × (Nat → Int32) × (Nat → Int32) × (Nat → Int32) × (Nat → Int32) × (Nat → Int64))) (ih134 : ∀ (x6 : Int32) (wdn : Int32) (wfo : Int32) (wmn : Int32) (wpn : Int32) (wdf : Nat → Int32) (wmf : Nat → Int32) (wpf : Nat → Int32) (wlf : Nat → Int64), kh134 x6 wdn wfo wmn wpn wdf wmf wpf wlf = some (r_z, won_z, wdn_z, wfo_z, wmn_z, wpn_z, wof_z, wdf_z, wmf_z, wpf_z, wlf_z) → ∀ (H : Heap) (locs : List Loc), va_P (dC, dI) vwCl (wd_Mo_frame w wi wo wh wd wm wp wl wb wc cB cI cJ win won whn wpl wdn wfo wmn wpn wbn wcn wat wnu wif wof whf wdf wmf wpf wlf) H → va_D A (wd_Mo_frame w wi wo wh wd wm wp wl wb wc cB cI cJ win won whn wpl wdn wfo wmn wpn wbn wcn wat wnu wif wof whf wdf wmf wpf wlf) → va_S A s.heap H locs → ∀ (ls : Array Slot), lv_has ls 12 [(0, .ref w), (1, .int x1), (4, .int x4), (5, .int x5), (6, .int x6)] → W p l e rm_Mo_frame s m args below meth c H locs 0 0 (MQ below (sQi (dC, dI) vwCl [(cB, .byte), (cI, .int), (cJ, .long)] A r_z (wd_Mo_frame w wi wo wh wd wm wp wl wb wc cB cI cJ win won_z whn wpl wdn_z wfo_z wmn_z wpn_z wbn wcn wat wnu wif wof_z whf wdf_z wmf_z wpf_z wlf_z)) args s 0 0 A) (F0 m 134 ls [])) (hf : j_Mo_frame_342 x4 x6 wdn wfo wmn wpn wdf wmf wpf wlf kh134 = some (r_z, won_z, wdn_z, wfo_z, wmn_z, wpn_z, wof_z, wdf_z, wmf_z, wpf_z, wlf_z)) (hP : va_P (dC, dI) vwCl (wd_Mo_frame w wi wo wh wd wm wp wl wb wc cB cI cJ win won whn wpl wdn wfo wmn wpn wbn wcn wat wnu wif wof whf wdf wmf wpf wlf) H) (hD : va_D A (wd_Mo_frame w wi wo wh wd wm wp wl wb wc cB cI cJ win won whn wpl wdn wfo wmn wpn wbn wcn wat wnu wif wof whf wdf wmf wpf wlf)) (hS : va_S A s.heap H locs) (hl : lv_has ls 12 [(0, .ref w), (1, .int x1), (4, .int x4), (5, .int x5), (6, .int x6)]) : W p l e rm_Mo_frame s m args below meth c H locs 0 0 (MQ below (sQi (dC, dI) vwCl [(cB, .byte), (cI, .int), (cJ, .long)] A r_z (wd_Mo_frame w wi wo wh wd wm wp wl wb wc cB cI cJ win won_z whn wpl wdn_z wfo_z wmn_z wpn_z wbn wcn wat wnu wif wof_z whf wdf_z wmf_z wpf_z wlf_z)) args s 0 0 A) (F0 m 342 ls []) := by
  obtain ⟨hx, hb, hml, hown, hts, hr, hlocks, hZ⟩ := id C
  unfold j_Mo_frame_342 at hf
  refine lv_iload hx hb d_Mo_frame_342 (lv_at hl 4 rfl) ?_
  refine lv_iload hx hb d_Mo_frame_344 (lv_at hl 2 rfl) ?_
  refine lv_iadd hx hb d_Mo_frame_346 ?_
  refine lv_istore (lv' := [(6, .int (x6 + x4)), (0, .ref w), (1, .int x1), (4, .int x4), (5, .int x5)]) hx hb d_Mo_frame_347 hl (by decide) rfl (fun ls hl => ?_)
  refine lv_goto (tgt := 134) hx hb d_Mo_frame_349 (by decide) ?_
  exact ih134 (x6 + x4) wdn wfo wmn wpn wdf wmf wpf wlf hf _ _ hP hD hS _ (lv_sub hl [1, 2, 3, 4, 0] rfl)
noncomputable def j_Mo_frame_302 (x11 : Int32) (wmn : Int32) (wmf : Nat → Int32) (wpf : Nat → Int32) (kh273 : Int32 → Int32 → (Nat → Int32) → (Nat → Int32) → Option (Int32 × Int32 × Int32 × Int32 × Int32 × Int32 × (Nat → Int32) × (Nat → Int32) × (Nat → Int32) × (Nat → Int32) × (Nat → Int64))) : Option (Int32 × Int32 × Int32 × Int32 × Int32 × Int32 × (Nat → Int32) × (Nat → Int32) × (Nat → Int32) × (Nat → Int32) × (Nat → Int64)) :=
  as_ (vp_in x11 9000) (bd2 (f_Mo_make (wpf x11.toNatClampNeg) wmn wmf) (fun wmn_310 wmf_310 => (kh273 (x11 + 1) wmn_310 wmf_310 wpf)))
set_option maxHeartbeats 4000000 in
set_option maxRecDepth 100000 in
theorem k_Mo_frame_302 {r_z : Int32} {won_z : Int32} {wdn_z : Int32} {wfo_z : Int32} {wmn_z : Int32} {wpn_z : Int32} {wof_z : Nat → Int32} {wdf_z : Nat → Int32} {wmf_z : Nat → Int32} {wpf_z : Nat → Int32} {wlf_z : Nat → Int64} (C : Fx p s m args meth c cd_Mo_frame 12 R_Mo lw_g (some .int)) (hK : va_K (dC, dI) vwCl [(cB, .byte), (cI, .int), (cJ, .long)] s) (hA : ∀ q, s.heap.size ≤ q → A q) (x1 : Int32) (x4 : Int32) (x5 : Int32) (x6 : Int32) (x9 : Int32) (x10 : Int32) (x11 : Int32) (win : Int32) (won : Int32) (whn : Int32) (wpl : Int32) (wdn : Int32) (wfo : Int32) (wmn : Int32) (wpn : Int32) (wbn : Int32) (wcn : Int32) (wat : Int32) (wnu : Int32) (wif : Nat → Int32) (wof : Nat → Int32) (whf : Nat → Int32) (wdf : Nat → Int32) (wmf : Nat → Int32) (wpf : Nat → Int32) (wlf : Nat → Int64) (kh134 : Int32 → Int32 → Int32 → Int32 → Int32 → (Nat → Int32) → (Nat → Int32) → (Nat → Int32) → (Nat → Int64) → Option (Int32 × Int32 × Int32 × Int32 × Int32 × Int32 × (Nat → Int32) × (Nat → Int32) × (Nat → Int32) × (Nat → Int32) × (Nat → Int64))) (ih134 : ∀ (x6 : Int32) (wdn : Int32) (wfo : Int32) (wmn : Int32) (wpn : Int32) (wdf : Nat → Int32) (wmf : Nat → Int32) (wpf : Nat → Int32) (wlf : Nat → Int64), kh134 x6 wdn wfo wmn wpn wdf wmf wpf wlf = some (r_z, won_z, wdn_z, wfo_z, wmn_z, wpn_z, wof_z, wdf_z, wmf_z, wpf_z, wlf_z) → ∀ (H : Heap) (locs : List Loc), va_P (dC, dI) vwCl (wd_Mo_frame w wi wo wh wd wm wp wl wb wc cB cI cJ win won whn wpl wdn wfo wmn wpn wbn wcn wat wnu wif wof whf wdf wmf wpf wlf) H → va_D A (wd_Mo_frame w wi wo wh wd wm wp wl wb wc cB cI cJ win won whn wpl wdn wfo wmn wpn wbn wcn wat wnu wif wof whf wdf wmf wpf wlf) → va_S A s.heap H locs → ∀ (ls : Array Slot), lv_has ls 12 [(0, .ref w), (1, .int x1), (4, .int x4), (5, .int x5), (6, .int x6)] → W p l e rm_Mo_frame s m args below meth c H locs 0 0 (MQ below (sQi (dC, dI) vwCl [(cB, .byte), (cI, .int), (cJ, .long)] A r_z (wd_Mo_frame w wi wo wh wd wm wp wl wb wc cB cI cJ win won_z whn wpl wdn_z wfo_z wmn_z wpn_z wbn wcn wat wnu wif wof_z whf wdf_z wmf_z wpf_z wlf_z)) args s 0 0 A) (F0 m 134 ls [])) (kh273 : Int32 → Int32 → (Nat → Int32) → (Nat → Int32) → Option (Int32 × Int32 × Int32 × Int32 × Int32 × Int32 × (Nat → Int32) × (Nat → Int32) × (Nat → Int32) × (Nat → Int32) × (Nat → Int64))) (ih273 : ∀ (x11 : Int32) (wmn : Int32) (wmf : Nat → Int32) (wpf : Nat → Int32), kh273 x11 wmn wmf wpf = some (r_z, won_z, wdn_z, wfo_z, wmn_z, wpn_z, wof_z, wdf_z, wmf_z, wpf_z, wlf_z) → ∀ (H : Heap) (locs : List Loc), va_P (dC, dI) vwCl (wd_Mo_frame w wi wo wh wd wm wp wl wb wc cB cI cJ win won whn wpl wdn wfo wmn wpn wbn wcn wat wnu wif wof whf wdf wmf wpf wlf) H → va_D A (wd_Mo_frame w wi wo wh wd wm wp wl wb wc cB cI cJ win won whn wpl wdn wfo wmn wpn wbn wcn wat wnu wif wof whf wdf wmf wpf wlf) → va_S A s.heap H locs → ∀ (ls : Array Slot), lv_has ls 12 [(0, .ref w), (1, .int x1), (4, .int x4), (5, .int x5), (6, .int x6), (9, .int x9), (10, .int x10), (11, .int x11)] → W p l e rm_Mo_frame s m args below meth c H locs 0 0 (MQ below (sQi (dC, dI) vwCl [(cB, .byte), (cI, .int), (cJ, .long)] A r_z (wd_Mo_frame w wi wo wh wd wm wp wl wb wc cB cI cJ win won_z whn wpl wdn_z wfo_z wmn_z wpn_z wbn wcn wat wnu wif wof_z whf wdf_z wmf_z wpf_z wlf_z)) args s 0 0 A) (F0 m 273 ls [])) (hf : j_Mo_frame_302 x11 wmn wmf wpf kh273 = some (r_z, won_z, wdn_z, wfo_z, wmn_z, wpn_z, wof_z, wdf_z, wmf_z, wpf_z, wlf_z)) (hP : va_P (dC, dI) vwCl (wd_Mo_frame w wi wo wh wd wm wp wl wb wc cB cI cJ win won whn wpl wdn wfo wmn wpn wbn wcn wat wnu wif wof whf wdf wmf wpf wlf) H) (hD : va_D A (wd_Mo_frame w wi wo wh wd wm wp wl wb wc cB cI cJ win won whn wpl wdn wfo wmn wpn wbn wcn wat wnu wif wof whf wdf wmf wpf wlf)) (hS : va_S A s.heap H locs) (hl : lv_has ls 12 [(0, .ref w), (1, .int x1), (4, .int x4), (5, .int x5), (6, .int x6), (9, .int x9), (10, .int x10), (11, .int x11)]) : W p l e rm_Mo_frame s m args below meth c H locs 0 0 (MQ below (sQi (dC, dI) vwCl [(cB, .byte), (cI, .int), (cJ, .long)] A r_z (wd_Mo_frame w wi wo wh wd wm wp wl wb wc cB cI cJ win won_z whn wpl wdn_z wfo_z wmn_z wpn_z wbn wcn wat wnu wif wof_z whf wdf_z wmf_z wpf_z wlf_z)) args s 0 0 A) (F0 m 302 ls []) := by
  obtain ⟨hx, hb, hml, hown, hts, hr, hlocks, hZ⟩ := id C
  unfold j_Mo_frame_302 at hf
  refine lv_aload_n hx hb d_Mo_frame_302 rfl (lv_at hl 0 rfl) ?_
  refine lv_aload_n hx hb d_Mo_frame_303 rfl (lv_at hl 0 rfl) ?_
  refine va_get (D := (dC, dI)) (ci := 7) (v := .ref wp) (C := R_Mo) (T := T_Mo) (N := 21) hx hb hts w_351 hown hK hP 0 rfl rfl 12 (by decide) (hts _ w_353) (fun _ h9 => h9) rfl d_Mo_frame_304 ?_
  refine lv_iload hx hb d_Mo_frame_307 (lv_at hl 7 rfl) ?_
  obtain ⟨h_in, hf⟩ := as_some hf
  refine va_iald hx hb hK hP 6 1 rfl rfl h_in d_Mo_frame_309 ?_
  obtain ⟨wmn_310, wmf_310, hc310, hf⟩ := bd2_some hf
  refine s_Vv (As := [.int (wpf x11.toNatClampNeg)]) (rest := []) (wr := [(wi, .inl (cI, 8000, .inl wif)), (wo, .inl (cI, 8000, .inl wof)), (wh, .inl (cI, 8000, .inl whf)), (wd, .inl (cI, 16000, .inl wdf)), (wp, .inl (cI, 9000, .inl wpf)), (wl, .inl (cJ, 4, .inr (.inl wlf)))]) (ws' := wd_Mo_frame w wi wo wh wd wm wp wl wb wc cB cI cJ win won whn wpl wdn wfo wmn_310 wpn wbn wcn wat wnu wif wof whf wdf wmf_310 wpf wlf) C.call (c_Mo_make l dC dI cB cI cJ w wm wi wo wh wd wp wb wc wl  win won whn wpl wdn wfo wmn wpn wbn wcn wat wnu wmf (wpf x11.toNatClampNeg) hc310) (cwV 1 hts (gd_V w_413 w_414 w_415 w_357 w_416) rfl rfl rfl ⟨rfl, hd_Mo_make⟩ ⟨Nat.le_of_ble_eq_true rfl, Nat.le_of_ble_eq_true rfl⟩) rfl hl.1 rfl (Nat.le_of_ble_eq_true rfl) d_Mo_frame_310 ⟨Nat.le_of_ble_eq_true rfl, Nat.le_of_ble_eq_true rfl⟩ hZ hK hP hD hS hA 7 0 rfl rfl [0, 5] [1, 2, 3, 4, 6, 7] [6, 0, 1, 2, 3, 7, 4, 5] rfl rfl rfl rfl (by decide) rfl rfl (fun H locs hP hD hS => ?_)
  refine lv_iinc (v := (x11 + 1)) (lv' := [(11, .int (x11 + 1)), (0, .ref w), (1, .int x1), (4, .int x4), (5, .int x5), (6, .int x6), (9, .int x9), (10, .int x10)]) hx hb d_Mo_frame_313 hl (k := 7) rfl (congrArg (fun z => x11 + z) (by decide)) (by decide) rfl (fun ls hl => ?_)
  refine lv_goto (tgt := 273) hx hb d_Mo_frame_316 (by decide) ?_
  exact ih273 (x11 + 1) wmn_310 wmf_310 wpf hf _ _ hP hD hS _ (lv_sub hl [1, 2, 3, 4, 5, 6, 7, 0] rfl)
noncomputable def b_Mo_frame_273 (N : Nat) (x1 : Int32) (x4 : Int32) (x6 : Int32) (x9 : Int32) (x10 : Int32) (wdn : Int32) (wfo : Int32) (wpn : Int32) (wif : Nat → Int32) (wdf : Nat → Int32) (wlf : Nat → Int64) (kh134 : Int32 → Int32 → Int32 → Int32 → Int32 → (Nat → Int32) → (Nat → Int32) → (Nat → Int32) → (Nat → Int64) → Option (Int32 × Int32 × Int32 × Int32 × Int32 × Int32 × (Nat → Int32) × (Nat → Int32) × (Nat → Int32) × (Nat → Int32) × (Nat → Int64))) (kh273 : Int32 → Int32 → (Nat → Int32) → (Nat → Int32) → Option (Int32 × Int32 × Int32 × Int32 × Int32 × Int32 × (Nat → Int32) × (Nat → Int32) × (Nat → Int32) × (Nat → Int32) × (Nat → Int64))) (x11 : Int32) (wmn : Int32) (wmf : Nat → Int32) (wpf : Nat → Int32) : Option (Int32 × Int32 × Int32 × Int32 × Int32 × Int32 × (Nat → Int32) × (Nat → Int32) × (Nat → Int32) × (Nat → Int32) × (Nat → Int64)) :=
  (if x10 ≤ x11 then (if (x1 &&& (16 : Int32)) = 0 then (j_Mo_frame_342 x4 x6 wdn wfo wmn wpn wdf wmf wpf wlf kh134) else bd2 (f_Mo_sumOf N 9000 (0 : Int32) x10 wlf wpf) (fun r335 wlf_335 => bd2 (f_Mo_makeNumber N r335 (4 : Int32) wmn wmf) (fun wmn_339 wmf_339 => (j_Mo_frame_342 x4 x6 wdn wfo wmn_339 wpn wdf wmf_339 wpf wlf_335 kh134)))) else (if x9 = 0 then (j_Mo_frame_302 x11 wmn wmf wpf kh273) else as_ (vp_in (x6 + x11) 8000) (as_ (vp_in x11 9000) ((j_Mo_frame_302 x11 wmn wmf (upd wpf x11.toNatClampNeg (wif (x6 + x11).toNatClampNeg)) kh273)))))
set_option maxHeartbeats 4000000 in
set_option maxRecDepth 100000 in
theorem k_Mo_frame_273 {r_z : Int32} {won_z : Int32} {wdn_z : Int32} {wfo_z : Int32} {wmn_z : Int32} {wpn_z : Int32} {wof_z : Nat → Int32} {wdf_z : Nat → Int32} {wmf_z : Nat → Int32} {wpf_z : Nat → Int32} {wlf_z : Nat → Int64} (C : Fx p s m args meth c cd_Mo_frame 12 R_Mo lw_g (some .int)) (hK : va_K (dC, dI) vwCl [(cB, .byte), (cI, .int), (cJ, .long)] s) (hA : ∀ q, s.heap.size ≤ q → A q) (x1 : Int32) (x4 : Int32) (x5 : Int32) (x6 : Int32) (x9 : Int32) (x10 : Int32) (win : Int32) (won : Int32) (whn : Int32) (wpl : Int32) (wdn : Int32) (wfo : Int32) (wpn : Int32) (wbn : Int32) (wcn : Int32) (wat : Int32) (wnu : Int32) (wif : Nat → Int32) (wof : Nat → Int32) (whf : Nat → Int32) (wdf : Nat → Int32) (wlf : Nat → Int64) (kh134 : Int32 → Int32 → Int32 → Int32 → Int32 → (Nat → Int32) → (Nat → Int32) → (Nat → Int32) → (Nat → Int64) → Option (Int32 × Int32 × Int32 × Int32 × Int32 × Int32 × (Nat → Int32) × (Nat → Int32) × (Nat → Int32) × (Nat → Int32) × (Nat → Int64))) (ih134 : ∀ (x6 : Int32) (wdn : Int32) (wfo : Int32) (wmn : Int32) (wpn : Int32) (wdf : Nat → Int32) (wmf : Nat → Int32) (wpf : Nat → Int32) (wlf : Nat → Int64), kh134 x6 wdn wfo wmn wpn wdf wmf wpf wlf = some (r_z, won_z, wdn_z, wfo_z, wmn_z, wpn_z, wof_z, wdf_z, wmf_z, wpf_z, wlf_z) → ∀ (H : Heap) (locs : List Loc), va_P (dC, dI) vwCl (wd_Mo_frame w wi wo wh wd wm wp wl wb wc cB cI cJ win won whn wpl wdn wfo wmn wpn wbn wcn wat wnu wif wof whf wdf wmf wpf wlf) H → va_D A (wd_Mo_frame w wi wo wh wd wm wp wl wb wc cB cI cJ win won whn wpl wdn wfo wmn wpn wbn wcn wat wnu wif wof whf wdf wmf wpf wlf) → va_S A s.heap H locs → ∀ (ls : Array Slot), lv_has ls 12 [(0, .ref w), (1, .int x1), (4, .int x4), (5, .int x5), (6, .int x6)] → W p l e rm_Mo_frame s m args below meth c H locs 0 0 (MQ below (sQi (dC, dI) vwCl [(cB, .byte), (cI, .int), (cJ, .long)] A r_z (wd_Mo_frame w wi wo wh wd wm wp wl wb wc cB cI cJ win won_z whn wpl wdn_z wfo_z wmn_z wpn_z wbn wcn wat wnu wif wof_z whf wdf_z wmf_z wpf_z wlf_z)) args s 0 0 A) (F0 m 134 ls [])) : ∀ (n : Nat) (x11 : Int32) (wmn : Int32) (wmf : Nat → Int32) (wpf : Nat → Int32), loop4 (b_Mo_frame_273 N x1 x4 x6 x9 x10 wdn wfo wpn wif wdf wlf kh134) n x11 wmn wmf wpf = some (r_z, won_z, wdn_z, wfo_z, wmn_z, wpn_z, wof_z, wdf_z, wmf_z, wpf_z, wlf_z) → ∀ (H : Heap) (locs : List Loc), va_P (dC, dI) vwCl (wd_Mo_frame w wi wo wh wd wm wp wl wb wc cB cI cJ win won whn wpl wdn wfo wmn wpn wbn wcn wat wnu wif wof whf wdf wmf wpf wlf) H → va_D A (wd_Mo_frame w wi wo wh wd wm wp wl wb wc cB cI cJ win won whn wpl wdn wfo wmn wpn wbn wcn wat wnu wif wof whf wdf wmf wpf wlf) → va_S A s.heap H locs → ∀ (ls : Array Slot), lv_has ls 12 [(0, .ref w), (1, .int x1), (4, .int x4), (5, .int x5), (6, .int x6), (9, .int x9), (10, .int x10), (11, .int x11)] → W p l e rm_Mo_frame s m args below meth c H locs 0 0 (MQ below (sQi (dC, dI) vwCl [(cB, .byte), (cI, .int), (cJ, .long)] A r_z (wd_Mo_frame w wi wo wh wd wm wp wl wb wc cB cI cJ win won_z whn wpl wdn_z wfo_z wmn_z wpn_z wbn wcn wat wnu wif wof_z whf wdf_z wmf_z wpf_z wlf_z)) args s 0 0 A) (F0 m 273 ls []) := by
  obtain ⟨hx, hb, hml, hown, hts, hr, hlocks, hZ⟩ := id C
  intro n
  induction n with
  | zero => intro x11 wmn wmf wpf hf; cases hf
  | succ n ih273 =>
    intro x11 wmn wmf wpf hf H locs hP hD hS ls hl
    have hf : b_Mo_frame_273 N x1 x4 x6 x9 x10 wdn wfo wpn wif wdf wlf kh134 (loop4 (b_Mo_frame_273 N x1 x4 x6 x9 x10 wdn wfo wpn wif wdf wlf kh134) n) x11 wmn wmf wpf = some (r_z, won_z, wdn_z, wfo_z, wmn_z, wpn_z, wof_z, wdf_z, wmf_z, wpf_z, wlf_z) := hf
    generalize loop4 (b_Mo_frame_273 N x1 x4 x6 x9 x10 wdn wfo wpn wif wdf wlf kh134) n = kh273 at hf ih273
    unfold b_Mo_frame_273 at hf
    refine lv_iload hx hb d_Mo_frame_273 (lv_at hl 7 rfl) ?_
    refine lv_iload hx hb d_Mo_frame_275 (lv_at hl 6 rfl) ?_
    refine lv_icmp_ge (tgt := 319) hx hb d_Mo_frame_277 (by decide) (fun c_277 => ?_) (fun c_277 => ?_)
    · have hf := br_pos c_277 hf
      refine lv_iload_n hx hb d_Mo_frame_319 rfl (lv_at hl 1 rfl) ?_
      refine lv_bipush (v := 16) hx hb d_Mo_frame_320 (by decide) ?_
      refine lv_iand hx hb d_Mo_frame_322 ?_
      refine lv_if_eq (tgt := 342) hx hb d_Mo_frame_323 (by decide) (fun c_323 => ?_) (fun c_323 => ?_)
      · have hf := br_pos c_323 hf
        exact k_Mo_frame_342 C hK hA x1 x4 x5 x6 win won whn wpl wdn wfo wmn wpn wbn wcn wat wnu wif wof whf wdf wmf wpf wlf kh134 ih134 hf hP hD hS (lv_sub hl [0, 1, 2, 3, 4] rfl)
      · have hf := br_neg c_323 hf
        refine lv_aload_n hx hb d_Mo_frame_326 rfl (lv_at hl 0 rfl) ?_
        refine lv_aload_n hx hb d_Mo_frame_327 rfl (lv_at hl 0 rfl) ?_
        refine lv_aload_n hx hb d_Mo_frame_328 rfl (lv_at hl 0 rfl) ?_
        refine va_get (D := (dC, dI)) (ci := 7) (v := .ref wp) (C := R_Mo) (T := T_Mo) (N := 21) hx hb hts w_351 hown hK hP 0 rfl rfl 12 (by decide) (hts _ w_353) (fun _ h9 => h9) rfl d_Mo_frame_329 ?_
        refine lv_iconst (v := 0) hx hb d_Mo_frame_332 (by decide) ?_
        refine lv_iload hx hb d_Mo_frame_333 (lv_at hl 6 rfl) ?_
        obtain ⟨r335, wlf_335, hc335, hf⟩ := bd2_some hf
        refine s_Vl (As := [.ref wp, .int (0 : Int32), .int x10]) (rest := [.ref w]) (wr := [(wi, .inl (cI, 8000, .inl wif)), (wo, .inl (cI, 8000, .inl wof)), (wh, .inl (cI, 8000, .inl whf)), (wd, .inl (cI, 16000, .inl wdf)), (wm, .inl (cI, 9000, .inl wmf))]) (ws' := wd_Mo_frame w wi wo wh wd wm wp wl wb wc cB cI cJ win won whn wpl wdn wfo wmn wpn wbn wcn wat wnu wif wof whf wdf wmf wpf wlf_335) C.call (c_Mo_sumOf l dC dI cB cI cJ w wl wp wi wo wh wd wm wp wb wc 9000 win won whn wpl wdn wfo wmn wpn wbn wcn wat wnu wlf wpf (0 : Int32) x10 hc335) (cwV 3 hts (gd_V w_441 w_442 w_443 w_357 w_444) rfl rfl rfl ⟨rfl, hd_Mo_sumOf⟩ ⟨Nat.le_of_ble_eq_true rfl, Nat.le_of_ble_eq_true rfl⟩) rfl hl.1 rfl (Nat.le_of_ble_eq_true rfl) d_Mo_frame_335 ⟨Nat.le_of_ble_eq_true rfl, Nat.le_of_ble_eq_true rfl⟩ hZ hK hP hD hS hA 7 0 rfl rfl [0, 7, 6] [1, 2, 3, 4, 5] [5, 0, 1, 2, 3, 4, 7, 6] rfl rfl rfl rfl (by decide) rfl rfl (fun H locs hP hD hS => ?_)
        refine lv_iconst (v := 4) hx hb d_Mo_frame_338 (by decide) ?_
        obtain ⟨wmn_339, wmf_339, hc339, hf⟩ := bd2_some hf
        refine s_Vv (As := [.long r335, .int (4 : Int32)]) (rest := []) (wr := [(wi, .inl (cI, 8000, .inl wif)), (wo, .inl (cI, 8000, .inl wof)), (wh, .inl (cI, 8000, .inl whf)), (wd, .inl (cI, 16000, .inl wdf)), (wp, .inl (cI, 9000, .inl wpf)), (wl, .inl (cJ, 4, .inr (.inl wlf_335)))]) (ws' := wd_Mo_frame w wi wo wh wd wm wp wl wb wc cB cI cJ win won whn wpl wdn wfo wmn_339 wpn wbn wcn wat wnu wif wof whf wdf wmf_339 wpf wlf_335) C.call (c_Mo_makeNumber l dC dI cB cI cJ w wm wi wo wh wd wp wb wc wl  win won whn wpl wdn wfo wmn wpn wbn wcn wat wnu wmf r335 (4 : Int32) hc339) (cwV 2 hts (gd_V w_437 w_438 w_439 w_357 w_440) rfl rfl rfl ⟨rfl, hd_Mo_makeNumber⟩ ⟨Nat.le_of_ble_eq_true rfl, Nat.le_of_ble_eq_true rfl⟩) rfl hl.1 rfl (Nat.le_of_ble_eq_true rfl) d_Mo_frame_339 ⟨Nat.le_of_ble_eq_true rfl, Nat.le_of_ble_eq_true rfl⟩ hZ hK hP hD hS hA 7 0 rfl rfl [0, 5] [1, 2, 3, 4, 6, 7] [6, 0, 1, 2, 3, 7, 4, 5] rfl rfl rfl rfl (by decide) rfl rfl (fun H locs hP hD hS => ?_)
        exact k_Mo_frame_342 C hK hA x1 x4 x5 x6 win won whn wpl wdn wfo wmn_339 wpn wbn wcn wat wnu wif wof whf wdf wmf_339 wpf wlf_335 kh134 ih134 hf hP hD hS (lv_sub hl [0, 1, 2, 3, 4] rfl)
    · have hf := br_neg c_277 hf
      refine lv_iload hx hb d_Mo_frame_280 (lv_at hl 5 rfl) ?_
      refine lv_if_eq (tgt := 302) hx hb d_Mo_frame_282 (by decide) (fun c_282 => ?_) (fun c_282 => ?_)
      · have hf := br_pos c_282 hf
        exact k_Mo_frame_302 C hK hA x1 x4 x5 x6 x9 x10 x11 win won whn wpl wdn wfo wmn wpn wbn wcn wat wnu wif wof whf wdf wmf wpf wlf kh134 ih134 kh273 ih273 hf hP hD hS (lv_sub hl [0, 1, 2, 3, 4, 5, 6, 7] rfl)
      · have hf := br_neg c_282 hf
        refine lv_aload_n hx hb d_Mo_frame_285 rfl (lv_at hl 0 rfl) ?_
        refine va_get (D := (dC, dI)) (ci := 7) (v := .ref wp) (C := R_Mo) (T := T_Mo) (N := 21) hx hb hts w_351 hown hK hP 0 rfl rfl 12 (by decide) (hts _ w_353) (fun _ h9 => h9) rfl d_Mo_frame_286 ?_
        refine lv_iload hx hb d_Mo_frame_289 (lv_at hl 7 rfl) ?_
        refine lv_aload_n hx hb d_Mo_frame_291 rfl (lv_at hl 0 rfl) ?_
        refine va_get (D := (dC, dI)) (ci := 7) (v := .ref wi) (C := R_Mo) (T := T_Mo) (N := 21) hx hb hts w_351 hown hK hP 0 rfl rfl 0 (by decide) (hts _ w_361) (fun _ h9 => h9) rfl d_Mo_frame_292 ?_
        refine lv_iload hx hb d_Mo_frame_295 (lv_at hl 4 rfl) ?_
        refine lv_iload hx hb d_Mo_frame_297 (lv_at hl 7 rfl) ?_
        refine lv_iadd hx hb d_Mo_frame_299 ?_
        obtain ⟨h_in, hf⟩ := as_some hf
        refine va_iald hx hb hK hP 1 1 rfl rfl h_in d_Mo_frame_300 ?_
        obtain ⟨h_in, hf⟩ := as_some hf
        refine va_iast hx hb hK hP hD hS 6 1 rfl rfl h_in d_Mo_frame_301 (fun H locs hP hD hS => ?_)
        have hP : va_P (dC, dI) vwCl (wd_Mo_frame w wi wo wh wd wm wp wl wb wc cB cI cJ win won whn wpl wdn wfo wmn wpn wbn wcn wat wnu wif wof whf wdf wmf (upd wpf x11.toNatClampNeg (wif (x6 + x11).toNatClampNeg)) wlf) H := hP
        have hD : va_D A (wd_Mo_frame w wi wo wh wd wm wp wl wb wc cB cI cJ win won whn wpl wdn wfo wmn wpn wbn wcn wat wnu wif wof whf wdf wmf (upd wpf x11.toNatClampNeg (wif (x6 + x11).toNatClampNeg)) wlf) := hD
        exact k_Mo_frame_302 C hK hA x1 x4 x5 x6 x9 x10 x11 win won whn wpl wdn wfo wmn wpn wbn wcn wat wnu wif wof whf wdf wmf (upd wpf x11.toNatClampNeg (wif (x6 + x11).toNatClampNeg)) wlf kh134 ih134 kh273 ih273 hf hP hD hS (lv_sub hl [0, 1, 2, 3, 4, 5, 6, 7] rfl)
noncomputable def j_Mo_frame_266 (N : Nat) (x1 : Int32) (x4 : Int32) (x6 : Int32) (x9 : Int32) (x10 : Int32) (t0 : Int64) (wdn : Int32) (wfo : Int32) (wmn : Int32) (wpn : Int32) (wif : Nat → Int32) (wdf : Nat → Int32) (wmf : Nat → Int32) (wpf : Nat → Int32) (wlf : Nat → Int64) (kh134 : Int32 → Int32 → Int32 → Int32 → Int32 → (Nat → Int32) → (Nat → Int32) → (Nat → Int32) → (Nat → Int64) → Option (Int32 × Int32 × Int32 × Int32 × Int32 × Int32 × (Nat → Int32) × (Nat → Int32) × (Nat → Int32) × (Nat → Int32) × (Nat → Int64))) : Option (Int32 × Int32 × Int32 × Int32 × Int32 × Int32 × (Nat → Int32) × (Nat → Int32) × (Nat → Int32) × (Nat → Int32) × (Nat → Int64)) :=
  bd2 (f_Mo_makeNumber N t0 (4 : Int32) wmn wmf) (fun wmn_267 wmf_267 => (loop4 (b_Mo_frame_273 N x1 x4 x6 x9 x10 wdn wfo wpn wif wdf wlf kh134) N (0 : Int32) wmn_267 wmf_267 wpf))
set_option maxHeartbeats 4000000 in
set_option maxRecDepth 100000 in
theorem k_Mo_frame_266 {r_z : Int32} {won_z : Int32} {wdn_z : Int32} {wfo_z : Int32} {wmn_z : Int32} {wpn_z : Int32} {wof_z : Nat → Int32} {wdf_z : Nat → Int32} {wmf_z : Nat → Int32} {wpf_z : Nat → Int32} {wlf_z : Nat → Int64} (C : Fx p s m args meth c cd_Mo_frame 12 R_Mo lw_g (some .int)) (hK : va_K (dC, dI) vwCl [(cB, .byte), (cI, .int), (cJ, .long)] s) (hA : ∀ q, s.heap.size ≤ q → A q) (x1 : Int32) (x4 : Int32) (x5 : Int32) (x6 : Int32) (x9 : Int32) (x10 : Int32) (t0 : Int64) (win : Int32) (won : Int32) (whn : Int32) (wpl : Int32) (wdn : Int32) (wfo : Int32) (wmn : Int32) (wpn : Int32) (wbn : Int32) (wcn : Int32) (wat : Int32) (wnu : Int32) (wif : Nat → Int32) (wof : Nat → Int32) (whf : Nat → Int32) (wdf : Nat → Int32) (wmf : Nat → Int32) (wpf : Nat → Int32) (wlf : Nat → Int64) (kh134 : Int32 → Int32 → Int32 → Int32 → Int32 → (Nat → Int32) → (Nat → Int32) → (Nat → Int32) → (Nat → Int64) → Option (Int32 × Int32 × Int32 × Int32 × Int32 × Int32 × (Nat → Int32) × (Nat → Int32) × (Nat → Int32) × (Nat → Int32) × (Nat → Int64))) (ih134 : ∀ (x6 : Int32) (wdn : Int32) (wfo : Int32) (wmn : Int32) (wpn : Int32) (wdf : Nat → Int32) (wmf : Nat → Int32) (wpf : Nat → Int32) (wlf : Nat → Int64), kh134 x6 wdn wfo wmn wpn wdf wmf wpf wlf = some (r_z, won_z, wdn_z, wfo_z, wmn_z, wpn_z, wof_z, wdf_z, wmf_z, wpf_z, wlf_z) → ∀ (H : Heap) (locs : List Loc), va_P (dC, dI) vwCl (wd_Mo_frame w wi wo wh wd wm wp wl wb wc cB cI cJ win won whn wpl wdn wfo wmn wpn wbn wcn wat wnu wif wof whf wdf wmf wpf wlf) H → va_D A (wd_Mo_frame w wi wo wh wd wm wp wl wb wc cB cI cJ win won whn wpl wdn wfo wmn wpn wbn wcn wat wnu wif wof whf wdf wmf wpf wlf) → va_S A s.heap H locs → ∀ (ls : Array Slot), lv_has ls 12 [(0, .ref w), (1, .int x1), (4, .int x4), (5, .int x5), (6, .int x6)] → W p l e rm_Mo_frame s m args below meth c H locs 0 0 (MQ below (sQi (dC, dI) vwCl [(cB, .byte), (cI, .int), (cJ, .long)] A r_z (wd_Mo_frame w wi wo wh wd wm wp wl wb wc cB cI cJ win won_z whn wpl wdn_z wfo_z wmn_z wpn_z wbn wcn wat wnu wif wof_z whf wdf_z wmf_z wpf_z wlf_z)) args s 0 0 A) (F0 m 134 ls [])) (hf : j_Mo_frame_266 N x1 x4 x6 x9 x10 t0 wdn wfo wmn wpn wif wdf wmf wpf wlf kh134 = some (r_z, won_z, wdn_z, wfo_z, wmn_z, wpn_z, wof_z, wdf_z, wmf_z, wpf_z, wlf_z)) (hP : va_P (dC, dI) vwCl (wd_Mo_frame w wi wo wh wd wm wp wl wb wc cB cI cJ win won whn wpl wdn wfo wmn wpn wbn wcn wat wnu wif wof whf wdf wmf wpf wlf) H) (hD : va_D A (wd_Mo_frame w wi wo wh wd wm wp wl wb wc cB cI cJ win won whn wpl wdn wfo wmn wpn wbn wcn wat wnu wif wof whf wdf wmf wpf wlf)) (hS : va_S A s.heap H locs) (hl : lv_has ls 12 [(0, .ref w), (1, .int x1), (4, .int x4), (5, .int x5), (6, .int x6), (9, .int x9), (10, .int x10)]) : W p l e rm_Mo_frame s m args below meth c H locs 0 0 (MQ below (sQi (dC, dI) vwCl [(cB, .byte), (cI, .int), (cJ, .long)] A r_z (wd_Mo_frame w wi wo wh wd wm wp wl wb wc cB cI cJ win won_z whn wpl wdn_z wfo_z wmn_z wpn_z wbn wcn wat wnu wif wof_z whf wdf_z wmf_z wpf_z wlf_z)) args s 0 0 A) (F0 m 266 ls [.long t0, .ref w]) := by
  obtain ⟨hx, hb, hml, hown, hts, hr, hlocks, hZ⟩ := id C
  unfold j_Mo_frame_266 at hf
  refine lv_iconst (v := 4) hx hb d_Mo_frame_266 (by decide) ?_
  obtain ⟨wmn_267, wmf_267, hc267, hf⟩ := bd2_some hf
  refine s_Vv (As := [.long t0, .int (4 : Int32)]) (rest := []) (wr := [(wi, .inl (cI, 8000, .inl wif)), (wo, .inl (cI, 8000, .inl wof)), (wh, .inl (cI, 8000, .inl whf)), (wd, .inl (cI, 16000, .inl wdf)), (wp, .inl (cI, 9000, .inl wpf)), (wl, .inl (cJ, 4, .inr (.inl wlf)))]) (ws' := wd_Mo_frame w wi wo wh wd wm wp wl wb wc cB cI cJ win won whn wpl wdn wfo wmn_267 wpn wbn wcn wat wnu wif wof whf wdf wmf_267 wpf wlf) C.call (c_Mo_makeNumber l dC dI cB cI cJ w wm wi wo wh wd wp wb wc wl  win won whn wpl wdn wfo wmn wpn wbn wcn wat wnu wmf t0 (4 : Int32) hc267) (cwV 2 hts (gd_V w_437 w_438 w_439 w_357 w_440) rfl rfl rfl ⟨rfl, hd_Mo_makeNumber⟩ ⟨Nat.le_of_ble_eq_true rfl, Nat.le_of_ble_eq_true rfl⟩) rfl hl.1 rfl (Nat.le_of_ble_eq_true rfl) d_Mo_frame_267 ⟨Nat.le_of_ble_eq_true rfl, Nat.le_of_ble_eq_true rfl⟩ hZ hK hP hD hS hA 7 0 rfl rfl [0, 5] [1, 2, 3, 4, 6, 7] [6, 0, 1, 2, 3, 7, 4, 5] rfl rfl rfl rfl (by decide) rfl rfl (fun H locs hP hD hS => ?_)
  refine lv_iconst (v := 0) hx hb d_Mo_frame_270 (by decide) ?_
  refine lv_istore (lv' := [(11, .int (0 : Int32)), (0, .ref w), (1, .int x1), (4, .int x4), (5, .int x5), (6, .int x6), (9, .int x9), (10, .int x10)]) hx hb d_Mo_frame_271 hl (by decide) rfl (fun ls hl => ?_)
  exact k_Mo_frame_273 C hK hA x1 x4 x5 x6 x9 x10 win won whn wpl wdn wfo wpn wbn wcn wat wnu wif wof whf wdf wlf kh134 ih134 N (0 : Int32) wmn_267 wmf_267 wpf hf _ _ hP hD hS _ (lv_sub hl [1, 2, 3, 4, 5, 6, 7, 0] rfl)
noncomputable def j_Mo_frame_245 (N : Nat) (x1 : Int32) (x4 : Int32) (x6 : Int32) (x9 : Int32) (t0 : Int32) (wdn : Int32) (wfo : Int32) (wmn : Int32) (wpn : Int32) (wif : Nat → Int32) (wdf : Nat → Int32) (wmf : Nat → Int32) (wpf : Nat → Int32) (wlf : Nat → Int64) (kh134 : Int32 → Int32 → Int32 → Int32 → Int32 → (Nat → Int32) → (Nat → Int32) → (Nat → Int32) → (Nat → Int64) → Option (Int32 × Int32 × Int32 × Int32 × Int32 × Int32 × (Nat → Int32) × (Nat → Int32) × (Nat → Int32) × (Nat → Int32) × (Nat → Int64))) : Option (Int32 × Int32 × Int32 × Int32 × Int32 × Int32 × (Nat → Int32) × (Nat → Int32) × (Nat → Int32) × (Nat → Int32) × (Nat → Int64)) :=
  (if x9 = 0 then (j_Mo_frame_266 N x1 x4 x6 x9 t0 (t0.toInt64) wdn wfo wmn wpn wif wdf wmf wpf wlf kh134) else (j_Mo_frame_266 N x1 x4 x6 x9 t0 ((2147483648 : Int64) + (t0.toInt64)) wdn wfo wmn wpn wif wdf wmf wpf wlf kh134))
set_option maxHeartbeats 4000000 in
set_option maxRecDepth 100000 in
theorem k_Mo_frame_245 {r_z : Int32} {won_z : Int32} {wdn_z : Int32} {wfo_z : Int32} {wmn_z : Int32} {wpn_z : Int32} {wof_z : Nat → Int32} {wdf_z : Nat → Int32} {wmf_z : Nat → Int32} {wpf_z : Nat → Int32} {wlf_z : Nat → Int64} (C : Fx p s m args meth c cd_Mo_frame 12 R_Mo lw_g (some .int)) (hK : va_K (dC, dI) vwCl [(cB, .byte), (cI, .int), (cJ, .long)] s) (hA : ∀ q, s.heap.size ≤ q → A q) (x1 : Int32) (x4 : Int32) (x5 : Int32) (x6 : Int32) (x9 : Int32) (t0 : Int32) (win : Int32) (won : Int32) (whn : Int32) (wpl : Int32) (wdn : Int32) (wfo : Int32) (wmn : Int32) (wpn : Int32) (wbn : Int32) (wcn : Int32) (wat : Int32) (wnu : Int32) (wif : Nat → Int32) (wof : Nat → Int32) (whf : Nat → Int32) (wdf : Nat → Int32) (wmf : Nat → Int32) (wpf : Nat → Int32) (wlf : Nat → Int64) (kh134 : Int32 → Int32 → Int32 → Int32 → Int32 → (Nat → Int32) → (Nat → Int32) → (Nat → Int32) → (Nat → Int64) → Option (Int32 × Int32 × Int32 × Int32 × Int32 × Int32 × (Nat → Int32) × (Nat → Int32) × (Nat → Int32) × (Nat → Int32) × (Nat → Int64))) (ih134 : ∀ (x6 : Int32) (wdn : Int32) (wfo : Int32) (wmn : Int32) (wpn : Int32) (wdf : Nat → Int32) (wmf : Nat → Int32) (wpf : Nat → Int32) (wlf : Nat → Int64), kh134 x6 wdn wfo wmn wpn wdf wmf wpf wlf = some (r_z, won_z, wdn_z, wfo_z, wmn_z, wpn_z, wof_z, wdf_z, wmf_z, wpf_z, wlf_z) → ∀ (H : Heap) (locs : List Loc), va_P (dC, dI) vwCl (wd_Mo_frame w wi wo wh wd wm wp wl wb wc cB cI cJ win won whn wpl wdn wfo wmn wpn wbn wcn wat wnu wif wof whf wdf wmf wpf wlf) H → va_D A (wd_Mo_frame w wi wo wh wd wm wp wl wb wc cB cI cJ win won whn wpl wdn wfo wmn wpn wbn wcn wat wnu wif wof whf wdf wmf wpf wlf) → va_S A s.heap H locs → ∀ (ls : Array Slot), lv_has ls 12 [(0, .ref w), (1, .int x1), (4, .int x4), (5, .int x5), (6, .int x6)] → W p l e rm_Mo_frame s m args below meth c H locs 0 0 (MQ below (sQi (dC, dI) vwCl [(cB, .byte), (cI, .int), (cJ, .long)] A r_z (wd_Mo_frame w wi wo wh wd wm wp wl wb wc cB cI cJ win won_z whn wpl wdn_z wfo_z wmn_z wpn_z wbn wcn wat wnu wif wof_z whf wdf_z wmf_z wpf_z wlf_z)) args s 0 0 A) (F0 m 134 ls [])) (hf : j_Mo_frame_245 N x1 x4 x6 x9 t0 wdn wfo wmn wpn wif wdf wmf wpf wlf kh134 = some (r_z, won_z, wdn_z, wfo_z, wmn_z, wpn_z, wof_z, wdf_z, wmf_z, wpf_z, wlf_z)) (hP : va_P (dC, dI) vwCl (wd_Mo_frame w wi wo wh wd wm wp wl wb wc cB cI cJ win won whn wpl wdn wfo wmn wpn wbn wcn wat wnu wif wof whf wdf wmf wpf wlf) H) (hD : va_D A (wd_Mo_frame w wi wo wh wd wm wp wl wb wc cB cI cJ win won whn wpl wdn wfo wmn wpn wbn wcn wat wnu wif wof whf wdf wmf wpf wlf)) (hS : va_S A s.heap H locs) (hl : lv_has ls 12 [(0, .ref w), (1, .int x1), (4, .int x4), (5, .int x5), (6, .int x6), (9, .int x9)]) : W p l e rm_Mo_frame s m args below meth c H locs 0 0 (MQ below (sQi (dC, dI) vwCl [(cB, .byte), (cI, .int), (cJ, .long)] A r_z (wd_Mo_frame w wi wo wh wd wm wp wl wb wc cB cI cJ win won_z whn wpl wdn_z wfo_z wmn_z wpn_z wbn wcn wat wnu wif wof_z whf wdf_z wmf_z wpf_z wlf_z)) args s 0 0 A) (F0 m 245 ls [.int t0]) := by
  obtain ⟨hx, hb, hml, hown, hts, hr, hlocks, hZ⟩ := id C
  unfold j_Mo_frame_245 at hf
  refine lv_istore (lv' := [(10, .int t0), (0, .ref w), (1, .int x1), (4, .int x4), (5, .int x5), (6, .int x6), (9, .int x9)]) hx hb d_Mo_frame_245 hl (by decide) rfl (fun ls hl => ?_)
  refine lv_aload_n hx hb d_Mo_frame_247 rfl (lv_at hl 1 rfl) ?_
  refine lv_iload hx hb d_Mo_frame_248 (lv_at hl 6 rfl) ?_
  refine lv_if_eq (tgt := 263) hx hb d_Mo_frame_250 (by decide) (fun c_250 => ?_) (fun c_250 => ?_)
  · have hf := br_pos c_250 hf
    refine lv_iload hx hb d_Mo_frame_263 (lv_at hl 0 rfl) ?_
    refine lv_i2l (v := (t0.toInt64)) hx hb d_Mo_frame_265 rfl ?_
    exact k_Mo_frame_266 C hK hA x1 x4 x5 x6 x9 t0 (t0.toInt64) win won whn wpl wdn wfo wmn wpn wbn wcn wat wnu wif wof whf wdf wmf wpf wlf kh134 ih134 hf hP hD hS (lv_sub hl [1, 2, 3, 4, 5, 6, 0] rfl)
  · have hf := br_neg c_250 hf
    refine lv_ldc2 (v := 2147483648) hx hb hown (hts _ w_445) d_Mo_frame_253 ?_
    refine lv_iload hx hb d_Mo_frame_256 (lv_at hl 0 rfl) ?_
    refine lv_i2l (v := (t0.toInt64)) hx hb d_Mo_frame_258 rfl ?_
    refine lv_ladd hx hb d_Mo_frame_259 ?_
    refine lv_goto (tgt := 266) hx hb d_Mo_frame_260 (by decide) ?_
    exact k_Mo_frame_266 C hK hA x1 x4 x5 x6 x9 t0 ((2147483648 : Int64) + (t0.toInt64)) win won whn wpl wdn wfo wmn wpn wbn wcn wat wnu wif wof whf wdf wmf wpf wlf kh134 ih134 hf hP hD hS (lv_sub hl [1, 2, 3, 4, 5, 6, 0] rfl)
noncomputable def j_Mo_frame_226 (N : Nat) (x1 : Int32) (x4 : Int32) (x6 : Int32) (x7 : Int32) (t0 : Int32) (wdn : Int32) (wfo : Int32) (wmn : Int32) (wpn : Int32) (wif : Nat → Int32) (wdf : Nat → Int32) (wmf : Nat → Int32) (wpf : Nat → Int32) (wlf : Nat → Int64) (kh134 : Int32 → Int32 → Int32 → Int32 → Int32 → (Nat → Int32) → (Nat → Int32) → (Nat → Int32) → (Nat → Int64) → Option (Int32 × Int32 × Int32 × Int32 × Int32 × Int32 × (Nat → Int32) × (Nat → Int32) × (Nat → Int32) × (Nat → Int32) × (Nat → Int64))) : Option (Int32 × Int32 × Int32 × Int32 × Int32 × Int32 × (Nat → Int32) × (Nat → Int32) × (Nat → Int32) × (Nat → Int32) × (Nat → Int64)) :=
  (if t0 = 0 then (j_Mo_frame_245 N x1 x4 x6 t0 wpn wdn wfo wmn wpn wif wdf wmf wpf wlf kh134) else (j_Mo_frame_245 N x1 x4 x6 t0 (x7 - x6) wdn wfo wmn wpn wif wdf wmf wpf wlf kh134))
set_option maxHeartbeats 4000000 in
set_option maxRecDepth 100000 in
theorem k_Mo_frame_226 {r_z : Int32} {won_z : Int32} {wdn_z : Int32} {wfo_z : Int32} {wmn_z : Int32} {wpn_z : Int32} {wof_z : Nat → Int32} {wdf_z : Nat → Int32} {wmf_z : Nat → Int32} {wpf_z : Nat → Int32} {wlf_z : Nat → Int64} (C : Fx p s m args meth c cd_Mo_frame 12 R_Mo lw_g (some .int)) (hK : va_K (dC, dI) vwCl [(cB, .byte), (cI, .int), (cJ, .long)] s) (hA : ∀ q, s.heap.size ≤ q → A q) (x1 : Int32) (x4 : Int32) (x5 : Int32) (x6 : Int32) (x7 : Int32) (t0 : Int32) (win : Int32) (won : Int32) (whn : Int32) (wpl : Int32) (wdn : Int32) (wfo : Int32) (wmn : Int32) (wpn : Int32) (wbn : Int32) (wcn : Int32) (wat : Int32) (wnu : Int32) (wif : Nat → Int32) (wof : Nat → Int32) (whf : Nat → Int32) (wdf : Nat → Int32) (wmf : Nat → Int32) (wpf : Nat → Int32) (wlf : Nat → Int64) (kh134 : Int32 → Int32 → Int32 → Int32 → Int32 → (Nat → Int32) → (Nat → Int32) → (Nat → Int32) → (Nat → Int64) → Option (Int32 × Int32 × Int32 × Int32 × Int32 × Int32 × (Nat → Int32) × (Nat → Int32) × (Nat → Int32) × (Nat → Int32) × (Nat → Int64))) (ih134 : ∀ (x6 : Int32) (wdn : Int32) (wfo : Int32) (wmn : Int32) (wpn : Int32) (wdf : Nat → Int32) (wmf : Nat → Int32) (wpf : Nat → Int32) (wlf : Nat → Int64), kh134 x6 wdn wfo wmn wpn wdf wmf wpf wlf = some (r_z, won_z, wdn_z, wfo_z, wmn_z, wpn_z, wof_z, wdf_z, wmf_z, wpf_z, wlf_z) → ∀ (H : Heap) (locs : List Loc), va_P (dC, dI) vwCl (wd_Mo_frame w wi wo wh wd wm wp wl wb wc cB cI cJ win won whn wpl wdn wfo wmn wpn wbn wcn wat wnu wif wof whf wdf wmf wpf wlf) H → va_D A (wd_Mo_frame w wi wo wh wd wm wp wl wb wc cB cI cJ win won whn wpl wdn wfo wmn wpn wbn wcn wat wnu wif wof whf wdf wmf wpf wlf) → va_S A s.heap H locs → ∀ (ls : Array Slot), lv_has ls 12 [(0, .ref w), (1, .int x1), (4, .int x4), (5, .int x5), (6, .int x6)] → W p l e rm_Mo_frame s m args below meth c H locs 0 0 (MQ below (sQi (dC, dI) vwCl [(cB, .byte), (cI, .int), (cJ, .long)] A r_z (wd_Mo_frame w wi wo wh wd wm wp wl wb wc cB cI cJ win won_z whn wpl wdn_z wfo_z wmn_z wpn_z wbn wcn wat wnu wif wof_z whf wdf_z wmf_z wpf_z wlf_z)) args s 0 0 A) (F0 m 134 ls [])) (hf : j_Mo_frame_226 N x1 x4 x6 x7 t0 wdn wfo wmn wpn wif wdf wmf wpf wlf kh134 = some (r_z, won_z, wdn_z, wfo_z, wmn_z, wpn_z, wof_z, wdf_z, wmf_z, wpf_z, wlf_z)) (hP : va_P (dC, dI) vwCl (wd_Mo_frame w wi wo wh wd wm wp wl wb wc cB cI cJ win won whn wpl wdn wfo wmn wpn wbn wcn wat wnu wif wof whf wdf wmf wpf wlf) H) (hD : va_D A (wd_Mo_frame w wi wo wh wd wm wp wl wb wc cB cI cJ win won whn wpl wdn wfo wmn wpn wbn wcn wat wnu wif wof whf wdf wmf wpf wlf)) (hS : va_S A s.heap H locs) (hl : lv_has ls 12 [(0, .ref w), (1, .int x1), (4, .int x4), (5, .int x5), (6, .int x6), (7, .int x7)]) : W p l e rm_Mo_frame s m args below meth c H locs 0 0 (MQ below (sQi (dC, dI) vwCl [(cB, .byte), (cI, .int), (cJ, .long)] A r_z (wd_Mo_frame w wi wo wh wd wm wp wl wb wc cB cI cJ win won_z whn wpl wdn_z wfo_z wmn_z wpn_z wbn wcn wat wnu wif wof_z whf wdf_z wmf_z wpf_z wlf_z)) args s 0 0 A) (F0 m 226 ls [.int t0]) := by
  obtain ⟨hx, hb, hml, hown, hts, hr, hlocks, hZ⟩ := id C
  unfold j_Mo_frame_226 at hf
  refine lv_istore (lv' := [(9, .int t0), (0, .ref w), (1, .int x1), (4, .int x4), (5, .int x5), (6, .int x6), (7, .int x7)]) hx hb d_Mo_frame_226 hl (by decide) rfl (fun ls hl => ?_)
  refine lv_iload hx hb d_Mo_frame_228 (lv_at hl 0 rfl) ?_
  refine lv_if_eq (tgt := 241) hx hb d_Mo_frame_230 (by decide) (fun c_230 => ?_) (fun c_230 => ?_)
  · have hf := br_pos c_230 hf
    refine lv_aload_n hx hb d_Mo_frame_241 rfl (lv_at hl 1 rfl) ?_
    refine va_get (D := (dC, dI)) (ci := 7) (v := .int wpn) (C := R_Mo) (T := T_Mo) (N := 21) hx hb hts w_351 hown hK hP 0 rfl rfl 13 (by decide) (hts _ w_352) (fun _ h9 => h9) rfl d_Mo_frame_242 ?_
    exact k_Mo_frame_245 C hK hA x1 x4 x5 x6 t0 wpn win won whn wpl wdn wfo wmn wpn wbn wcn wat wnu wif wof whf wdf wmf wpf wlf kh134 ih134 hf hP hD hS (lv_sub hl [1, 2, 3, 4, 5, 0] rfl)
  · have hf := br_neg c_230 hf
    refine lv_iload hx hb d_Mo_frame_233 (lv_at hl 6 rfl) ?_
    refine lv_iload hx hb d_Mo_frame_235 (lv_at hl 5 rfl) ?_
    refine lv_isub hx hb d_Mo_frame_237 ?_
    refine lv_goto (tgt := 245) hx hb d_Mo_frame_238 (by decide) ?_
    exact k_Mo_frame_245 C hK hA x1 x4 x5 x6 t0 (x7 - x6) win won whn wpl wdn wfo wmn wpn wbn wcn wat wnu wif wof whf wdf wmf wpf wlf kh134 ih134 hf hP hD hS (lv_sub hl [1, 2, 3, 4, 5, 0] rfl)
noncomputable def j_Mo_frame_187 (N : Nat) (x1 : Int32) (x4 : Int32) (x5 : Int32) (x6 : Int32) (x7 : Int32) (wdn : Int32) (wfo : Int32) (wmn : Int32) (wif : Nat → Int32) (wdf : Nat → Int32) (wmf : Nat → Int32) (wpf : Nat → Int32) (wlf : Nat → Int64) (kh134 : Int32 → Int32 → Int32 → Int32 → Int32 → (Nat → Int32) → (Nat → Int32) → (Nat → Int32) → (Nat → Int64) → Option (Int32 × Int32 × Int32 × Int32 × Int32 × Int32 × (Nat → Int32) × (Nat → Int32) × (Nat → Int32) × (Nat → Int32) × (Nat → Int64))) : Option (Int32 × Int32 × Int32 × Int32 × Int32 × Int32 × (Nat → Int32) × (Nat → Int32) × (Nat → Int32) × (Nat → Int32) × (Nat → Int64)) :=
  bd2 (f_Mo_append N x6 x7 wdn wif wdf) (fun wdn_198 wdf_198 => bd3 (f_Mo_writeBlock N wdn x5 wdn_198 wfo wdf_198 wpf) (fun wfo_206 wpn_206 wpf_206 => (if wpn_206 < (x7 - x6) then (j_Mo_frame_226 N x1 x4 x6 x7 (0 : Int32) wdn_198 wfo_206 wmn wpn_206 wif wdf_198 wmf wpf_206 wlf kh134) else (j_Mo_frame_226 N x1 x4 x6 x7 (1 : Int32) wdn_198 wfo_206 wmn wpn_206 wif wdf_198 wmf wpf_206 wlf kh134))))
set_option maxHeartbeats 4000000 in
set_option maxRecDepth 100000 in
theorem k_Mo_frame_187 {r_z : Int32} {won_z : Int32} {wdn_z : Int32} {wfo_z : Int32} {wmn_z : Int32} {wpn_z : Int32} {wof_z : Nat → Int32} {wdf_z : Nat → Int32} {wmf_z : Nat → Int32} {wpf_z : Nat → Int32} {wlf_z : Nat → Int64} (C : Fx p s m args meth c cd_Mo_frame 12 R_Mo lw_g (some .int)) (hK : va_K (dC, dI) vwCl [(cB, .byte), (cI, .int), (cJ, .long)] s) (hA : ∀ q, s.heap.size ≤ q → A q) (x1 : Int32) (x4 : Int32) (x5 : Int32) (x6 : Int32) (x7 : Int32) (win : Int32) (won : Int32) (whn : Int32) (wpl : Int32) (wdn : Int32) (wfo : Int32) (wmn : Int32) (wpn : Int32) (wbn : Int32) (wcn : Int32) (wat : Int32) (wnu : Int32) (wif : Nat → Int32) (wof : Nat → Int32) (whf : Nat → Int32) (wdf : Nat → Int32) (wmf : Nat → Int32) (wpf : Nat → Int32) (wlf : Nat → Int64) (kh134 : Int32 → Int32 → Int32 → Int32 → Int32 → (Nat → Int32) → (Nat → Int32) → (Nat → Int32) → (Nat → Int64) → Option (Int32 × Int32 × Int32 × Int32 × Int32 × Int32 × (Nat → Int32) × (Nat → Int32) × (Nat → Int32) × (Nat → Int32) × (Nat → Int64))) (ih134 : ∀ (x6 : Int32) (wdn : Int32) (wfo : Int32) (wmn : Int32) (wpn : Int32) (wdf : Nat → Int32) (wmf : Nat → Int32) (wpf : Nat → Int32) (wlf : Nat → Int64), kh134 x6 wdn wfo wmn wpn wdf wmf wpf wlf = some (r_z, won_z, wdn_z, wfo_z, wmn_z, wpn_z, wof_z, wdf_z, wmf_z, wpf_z, wlf_z) → ∀ (H : Heap) (locs : List Loc), va_P (dC, dI) vwCl (wd_Mo_frame w wi wo wh wd wm wp wl wb wc cB cI cJ win won whn wpl wdn wfo wmn wpn wbn wcn wat wnu wif wof whf wdf wmf wpf wlf) H → va_D A (wd_Mo_frame w wi wo wh wd wm wp wl wb wc cB cI cJ win won whn wpl wdn wfo wmn wpn wbn wcn wat wnu wif wof whf wdf wmf wpf wlf) → va_S A s.heap H locs → ∀ (ls : Array Slot), lv_has ls 12 [(0, .ref w), (1, .int x1), (4, .int x4), (5, .int x5), (6, .int x6)] → W p l e rm_Mo_frame s m args below meth c H locs 0 0 (MQ below (sQi (dC, dI) vwCl [(cB, .byte), (cI, .int), (cJ, .long)] A r_z (wd_Mo_frame w wi wo wh wd wm wp wl wb wc cB cI cJ win won_z whn wpl wdn_z wfo_z wmn_z wpn_z wbn wcn wat wnu wif wof_z whf wdf_z wmf_z wpf_z wlf_z)) args s 0 0 A) (F0 m 134 ls [])) (hf : j_Mo_frame_187 N x1 x4 x5 x6 x7 wdn wfo wmn wif wdf wmf wpf wlf kh134 = some (r_z, won_z, wdn_z, wfo_z, wmn_z, wpn_z, wof_z, wdf_z, wmf_z, wpf_z, wlf_z)) (hP : va_P (dC, dI) vwCl (wd_Mo_frame w wi wo wh wd wm wp wl wb wc cB cI cJ win won whn wpl wdn wfo wmn wpn wbn wcn wat wnu wif wof whf wdf wmf wpf wlf) H) (hD : va_D A (wd_Mo_frame w wi wo wh wd wm wp wl wb wc cB cI cJ win won whn wpl wdn wfo wmn wpn wbn wcn wat wnu wif wof whf wdf wmf wpf wlf)) (hS : va_S A s.heap H locs) (hl : lv_has ls 12 [(0, .ref w), (1, .int x1), (4, .int x4), (5, .int x5), (6, .int x6), (7, .int x7)]) : W p l e rm_Mo_frame s m args below meth c H locs 0 0 (MQ below (sQi (dC, dI) vwCl [(cB, .byte), (cI, .int), (cJ, .long)] A r_z (wd_Mo_frame w wi wo wh wd wm wp wl wb wc cB cI cJ win won_z whn wpl wdn_z wfo_z wmn_z wpn_z wbn wcn wat wnu wif wof_z whf wdf_z wmf_z wpf_z wlf_z)) args s 0 0 A) (F0 m 187 ls []) := by
  obtain ⟨hx, hb, hml, hown, hts, hr, hlocks, hZ⟩ := id C
  unfold j_Mo_frame_187 at hf
  refine lv_aload_n hx hb d_Mo_frame_187 rfl (lv_at hl 0 rfl) ?_
  refine va_get (D := (dC, dI)) (ci := 7) (v := .int wdn) (C := R_Mo) (T := T_Mo) (N := 21) hx hb hts w_351 hown hK hP 0 rfl rfl 8 (by decide) (hts _ w_364) (fun _ h9 => h9) rfl d_Mo_frame_188 ?_
  refine lv_istore (lv' := [(8, .int wdn), (0, .ref w), (1, .int x1), (4, .int x4), (5, .int x5), (6, .int x6), (7, .int x7)]) hx hb d_Mo_frame_191 hl (by decide) rfl (fun ls hl => ?_)
  refine lv_aload_n hx hb d_Mo_frame_193 rfl (lv_at hl 1 rfl) ?_
  refine lv_iload hx hb d_Mo_frame_194 (lv_at hl 5 rfl) ?_
  refine lv_iload hx hb d_Mo_frame_196 (lv_at hl 6 rfl) ?_
  obtain ⟨wdn_198, wdf_198, hc198, hf⟩ := bd2_some hf
  refine s_Vv (As := [.int x6, .int x7]) (rest := []) (wr := [(wo, .inl (cI, 8000, .inl wof)), (wh, .inl (cI, 8000, .inl whf)), (wm, .inl (cI, 9000, .inl wmf)), (wp, .inl (cI, 9000, .inl wpf)), (wl, .inl (cJ, 4, .inr (.inl wlf)))]) (ws' := wd_Mo_frame w wi wo wh wd wm wp wl wb wc cB cI cJ win won whn wpl wdn_198 wfo wmn wpn wbn wcn wat wnu wif wof whf wdf_198 wmf wpf wlf) C.call (c_Mo_append l dC dI cB cI cJ w wi wd wo wh wm wp wb wc wl  win won whn wpl wdn wfo wmn wpn wbn wcn wat wnu wif wdf x6 x7 hc198) (cwV 2 hts (gd_V w_397 w_398 w_399 w_357 w_400) rfl rfl rfl ⟨rfl, hd_Mo_append⟩ ⟨Nat.le_of_ble_eq_true rfl, Nat.le_of_ble_eq_true rfl⟩) rfl hl.1 rfl (Nat.le_of_ble_eq_true rfl) d_Mo_frame_198 ⟨Nat.le_of_ble_eq_true rfl, Nat.le_of_ble_eq_true rfl⟩ hZ hK hP hD hS hA 7 0 rfl rfl [0, 1, 4] [2, 3, 5, 6, 7] [5, 6, 0, 1, 7, 2, 3, 4] rfl rfl rfl rfl (by decide) rfl rfl (fun H locs hP hD hS => ?_)
  refine lv_aload_n hx hb d_Mo_frame_201 rfl (lv_at hl 1 rfl) ?_
  refine lv_iload hx hb d_Mo_frame_202 (lv_at hl 0 rfl) ?_
  refine lv_iload hx hb d_Mo_frame_204 (lv_at hl 4 rfl) ?_
  obtain ⟨wfo_206, wpn_206, wpf_206, hc206, hf⟩ := bd3_some hf
  refine s_Vv (As := [.int wdn, .int x5]) (rest := []) (wr := [(wi, .inl (cI, 8000, .inl wif)), (wo, .inl (cI, 8000, .inl wof)), (wh, .inl (cI, 8000, .inl whf)), (wm, .inl (cI, 9000, .inl wmf)), (wl, .inl (cJ, 4, .inr (.inl wlf)))]) (ws' := wd_Mo_frame w wi wo wh wd wm wp wl wb wc cB cI cJ win won whn wpl wdn_198 wfo_206 wmn wpn_206 wbn wcn wat wnu wif wof whf wdf_198 wmf wpf_206 wlf) C.call (c_Mo_writeBlock l dC dI cB cI cJ w wd wp wi wo wh wm wb wc wl  win won whn wpl wdn_198 wfo wmn wpn wbn wcn wat wnu wdf_198 wpf wdn x5 hc206) (cwV 2 hts (gd_V w_401 w_402 w_403 w_357 w_404) rfl rfl rfl ⟨rfl, hd_Mo_writeBlock⟩ ⟨Nat.le_of_ble_eq_true rfl, Nat.le_of_ble_eq_true rfl⟩) rfl hl.1 rfl (Nat.le_of_ble_eq_true rfl) d_Mo_frame_206 ⟨Nat.le_of_ble_eq_true rfl, Nat.le_of_ble_eq_true rfl⟩ hZ hK hP hD hS hA 7 0 rfl rfl [0, 4, 6] [1, 2, 3, 5, 7] [5, 0, 1, 2, 6, 3, 7, 4] rfl rfl rfl rfl (by decide) rfl rfl (fun H locs hP hD hS => ?_)
  refine lv_aload_n hx hb d_Mo_frame_209 rfl (lv_at hl 1 rfl) ?_
  refine va_get (D := (dC, dI)) (ci := 7) (v := .int wpn_206) (C := R_Mo) (T := T_Mo) (N := 21) hx hb hts w_351 hown hK hP 0 rfl rfl 13 (by decide) (hts _ w_352) (fun _ h9 => h9) rfl d_Mo_frame_210 ?_
  refine lv_iload hx hb d_Mo_frame_213 (lv_at hl 6 rfl) ?_
  refine lv_iload hx hb d_Mo_frame_215 (lv_at hl 5 rfl) ?_
  refine lv_isub hx hb d_Mo_frame_217 ?_
  refine lv_icmp_lt (tgt := 225) hx hb d_Mo_frame_218 (by decide) (fun c_218 => ?_) (fun c_218 => ?_)
  · have hf := br_pos c_218 hf
    refine lv_iconst (v := 0) hx hb d_Mo_frame_225 (by decide) ?_
    exact k_Mo_frame_226 C hK hA x1 x4 x5 x6 x7 (0 : Int32) win won whn wpl wdn_198 wfo_206 wmn wpn_206 wbn wcn wat wnu wif wof whf wdf_198 wmf wpf_206 wlf kh134 ih134 hf hP hD hS (lv_sub hl [1, 2, 3, 4, 5, 6] rfl)
  · have hf := br_neg c_218 hf
    refine lv_iconst (v := 1) hx hb d_Mo_frame_221 (by decide) ?_
    refine lv_goto (tgt := 226) hx hb d_Mo_frame_222 (by decide) ?_
    exact k_Mo_frame_226 C hK hA x1 x4 x5 x6 x7 (1 : Int32) win won whn wpl wdn_198 wfo_206 wmn wpn_206 wbn wcn wat wnu wif wof whf wdf_198 wmf wpf_206 wlf kh134 ih134 hf hP hD hS (lv_sub hl [1, 2, 3, 4, 5, 6] rfl)
noncomputable def j_Mo_frame_167 (N : Nat) (x1 : Int32) (x4 : Int32) (x5 : Int32) (x6 : Int32) (t0 : Int32) (whn : Int32) (wfo : Int32) (wmn : Int32) (wif : Nat → Int32) (whf : Nat → Int32) (wdf : Nat → Int32) (wmf : Nat → Int32) (wpf : Nat → Int32) (wlf : Nat → Int64) (kh134 : Int32 → Int32 → Int32 → Int32 → Int32 → (Nat → Int32) → (Nat → Int32) → (Nat → Int32) → (Nat → Int64) → Option (Int32 × Int32 × Int32 × Int32 × Int32 × Int32 × (Nat → Int32) × (Nat → Int32) × (Nat → Int32) × (Nat → Int32) × (Nat → Int64))) : Option (Int32 × Int32 × Int32 × Int32 × Int32 × Int32 × (Nat → Int32) × (Nat → Int32) × (Nat → Int32) × (Nat → Int32) × (Nat → Int64)) :=
  bd2 (f_Mo_begin N whn whf wdf) (fun wdn_170 wdf_170 => (if (x1 &&& (32 : Int32)) = 0 then bd2 (f_Mo_append N (0 : Int32) x6 wdn_170 wif wdf_170) (fun wdn_184 wdf_184 => (j_Mo_frame_187 N x1 x4 x5 x6 t0 wdn_184 wfo wmn wif wdf_184 wmf wpf wlf kh134)) else (j_Mo_frame_187 N x1 x4 x5 x6 t0 wdn_170 wfo wmn wif wdf_170 wmf wpf wlf kh134)))
set_option maxHeartbeats 4000000 in
set_option maxRecDepth 100000 in
theorem k_Mo_frame_167 {r_z : Int32} {won_z : Int32} {wdn_z : Int32} {wfo_z : Int32} {wmn_z : Int32} {wpn_z : Int32} {wof_z : Nat → Int32} {wdf_z : Nat → Int32} {wmf_z : Nat → Int32} {wpf_z : Nat → Int32} {wlf_z : Nat → Int64} (C : Fx p s m args meth c cd_Mo_frame 12 R_Mo lw_g (some .int)) (hK : va_K (dC, dI) vwCl [(cB, .byte), (cI, .int), (cJ, .long)] s) (hA : ∀ q, s.heap.size ≤ q → A q) (x1 : Int32) (x4 : Int32) (x5 : Int32) (x6 : Int32) (t0 : Int32) (win : Int32) (won : Int32) (whn : Int32) (wpl : Int32) (wdn : Int32) (wfo : Int32) (wmn : Int32) (wpn : Int32) (wbn : Int32) (wcn : Int32) (wat : Int32) (wnu : Int32) (wif : Nat → Int32) (wof : Nat → Int32) (whf : Nat → Int32) (wdf : Nat → Int32) (wmf : Nat → Int32) (wpf : Nat → Int32) (wlf : Nat → Int64) (kh134 : Int32 → Int32 → Int32 → Int32 → Int32 → (Nat → Int32) → (Nat → Int32) → (Nat → Int32) → (Nat → Int64) → Option (Int32 × Int32 × Int32 × Int32 × Int32 × Int32 × (Nat → Int32) × (Nat → Int32) × (Nat → Int32) × (Nat → Int32) × (Nat → Int64))) (ih134 : ∀ (x6 : Int32) (wdn : Int32) (wfo : Int32) (wmn : Int32) (wpn : Int32) (wdf : Nat → Int32) (wmf : Nat → Int32) (wpf : Nat → Int32) (wlf : Nat → Int64), kh134 x6 wdn wfo wmn wpn wdf wmf wpf wlf = some (r_z, won_z, wdn_z, wfo_z, wmn_z, wpn_z, wof_z, wdf_z, wmf_z, wpf_z, wlf_z) → ∀ (H : Heap) (locs : List Loc), va_P (dC, dI) vwCl (wd_Mo_frame w wi wo wh wd wm wp wl wb wc cB cI cJ win won whn wpl wdn wfo wmn wpn wbn wcn wat wnu wif wof whf wdf wmf wpf wlf) H → va_D A (wd_Mo_frame w wi wo wh wd wm wp wl wb wc cB cI cJ win won whn wpl wdn wfo wmn wpn wbn wcn wat wnu wif wof whf wdf wmf wpf wlf) → va_S A s.heap H locs → ∀ (ls : Array Slot), lv_has ls 12 [(0, .ref w), (1, .int x1), (4, .int x4), (5, .int x5), (6, .int x6)] → W p l e rm_Mo_frame s m args below meth c H locs 0 0 (MQ below (sQi (dC, dI) vwCl [(cB, .byte), (cI, .int), (cJ, .long)] A r_z (wd_Mo_frame w wi wo wh wd wm wp wl wb wc cB cI cJ win won_z whn wpl wdn_z wfo_z wmn_z wpn_z wbn wcn wat wnu wif wof_z whf wdf_z wmf_z wpf_z wlf_z)) args s 0 0 A) (F0 m 134 ls [])) (hf : j_Mo_frame_167 N x1 x4 x5 x6 t0 whn wfo wmn wif whf wdf wmf wpf wlf kh134 = some (r_z, won_z, wdn_z, wfo_z, wmn_z, wpn_z, wof_z, wdf_z, wmf_z, wpf_z, wlf_z)) (hP : va_P (dC, dI) vwCl (wd_Mo_frame w wi wo wh wd wm wp wl wb wc cB cI cJ win won whn wpl wdn wfo wmn wpn wbn wcn wat wnu wif wof whf wdf wmf wpf wlf) H) (hD : va_D A (wd_Mo_frame w wi wo wh wd wm wp wl wb wc cB cI cJ win won whn wpl wdn wfo wmn wpn wbn wcn wat wnu wif wof whf wdf wmf wpf wlf)) (hS : va_S A s.heap H locs) (hl : lv_has ls 12 [(0, .ref w), (1, .int x1), (4, .int x4), (5, .int x5), (6, .int x6)]) : W p l e rm_Mo_frame s m args below meth c H locs 0 0 (MQ below (sQi (dC, dI) vwCl [(cB, .byte), (cI, .int), (cJ, .long)] A r_z (wd_Mo_frame w wi wo wh wd wm wp wl wb wc cB cI cJ win won_z whn wpl wdn_z wfo_z wmn_z wpn_z wbn wcn wat wnu wif wof_z whf wdf_z wmf_z wpf_z wlf_z)) args s 0 0 A) (F0 m 167 ls [.int t0]) := by
  obtain ⟨hx, hb, hml, hown, hts, hr, hlocks, hZ⟩ := id C
  unfold j_Mo_frame_167 at hf
  refine lv_istore (lv' := [(7, .int t0), (0, .ref w), (1, .int x1), (4, .int x4), (5, .int x5), (6, .int x6)]) hx hb d_Mo_frame_167 hl (by decide) rfl (fun ls hl => ?_)
  refine lv_aload_n hx hb d_Mo_frame_169 rfl (lv_at hl 1 rfl) ?_
  obtain ⟨wdn_170, wdf_170, hc170, hf⟩ := bd2_some hf
  refine s_Vv (As := []) (rest := []) (wr := [(wi, .inl (cI, 8000, .inl wif)), (wo, .inl (cI, 8000, .inl wof)), (wm, .inl (cI, 9000, .inl wmf)), (wp, .inl (cI, 9000, .inl wpf)), (wl, .inl (cJ, 4, .inr (.inl wlf)))]) (ws' := wd_Mo_frame w wi wo wh wd wm wp wl wb wc cB cI cJ win won whn wpl wdn_170 wfo wmn wpn wbn wcn wat wnu wif wof whf wdf_170 wmf wpf wlf) C.call (c_Mo_begin l dC dI cB cI cJ w wh wd wi wo wm wp wb wc wl  win won whn wpl wdn wfo wmn wpn wbn wcn wat wnu whf wdf  hc170) (cwV 0 hts (gd_V w_393 w_394 w_395 w_357 w_396) rfl rfl rfl ⟨rfl, hd_Mo_begin⟩ ⟨Nat.le_of_ble_eq_true rfl, Nat.le_of_ble_eq_true rfl⟩) rfl hl.1 rfl (Nat.le_of_ble_eq_true rfl) d_Mo_frame_170 ⟨Nat.le_of_ble_eq_true rfl, Nat.le_of_ble_eq_true rfl⟩ hZ hK hP hD hS hA 7 0 rfl rfl [0, 3, 4] [1, 2, 5, 6, 7] [5, 0, 1, 6, 7, 2, 3, 4] rfl rfl rfl rfl (by decide) rfl rfl (fun H locs hP hD hS => ?_)
  refine lv_iload_n hx hb d_Mo_frame_173 rfl (lv_at hl 2 rfl) ?_
  refine lv_bipush (v := 32) hx hb d_Mo_frame_174 (by decide) ?_
  refine lv_iand hx hb d_Mo_frame_176 ?_
  refine lv_if_ne (tgt := 187) hx hb d_Mo_frame_177 (by decide) (fun c_177 => ?_) (fun c_177 => ?_)
  · have hf := br_neg c_177 hf
    exact k_Mo_frame_187 C hK hA x1 x4 x5 x6 t0 win won whn wpl wdn_170 wfo wmn wpn wbn wcn wat wnu wif wof whf wdf_170 wmf wpf wlf kh134 ih134 hf hP hD hS (lv_sub hl [1, 2, 3, 4, 5, 0] rfl)
  · have hf := br_pos c_177 hf
    refine lv_aload_n hx hb d_Mo_frame_180 rfl (lv_at hl 1 rfl) ?_
    refine lv_iconst (v := 0) hx hb d_Mo_frame_181 (by decide) ?_
    refine lv_iload hx hb d_Mo_frame_182 (lv_at hl 5 rfl) ?_
    obtain ⟨wdn_184, wdf_184, hc184, hf⟩ := bd2_some hf
    refine s_Vv (As := [.int (0 : Int32), .int x6]) (rest := []) (wr := [(wo, .inl (cI, 8000, .inl wof)), (wh, .inl (cI, 8000, .inl whf)), (wm, .inl (cI, 9000, .inl wmf)), (wp, .inl (cI, 9000, .inl wpf)), (wl, .inl (cJ, 4, .inr (.inl wlf)))]) (ws' := wd_Mo_frame w wi wo wh wd wm wp wl wb wc cB cI cJ win won whn wpl wdn_184 wfo wmn wpn wbn wcn wat wnu wif wof whf wdf_184 wmf wpf wlf) C.call (c_Mo_append l dC dI cB cI cJ w wi wd wo wh wm wp wb wc wl  win won whn wpl wdn_170 wfo wmn wpn wbn wcn wat wnu wif wdf_170 (0 : Int32) x6 hc184) (cwV 2 hts (gd_V w_397 w_398 w_399 w_357 w_400) rfl rfl rfl ⟨rfl, hd_Mo_append⟩ ⟨Nat.le_of_ble_eq_true rfl, Nat.le_of_ble_eq_true rfl⟩) rfl hl.1 rfl (Nat.le_of_ble_eq_true rfl) d_Mo_frame_184 ⟨Nat.le_of_ble_eq_true rfl, Nat.le_of_ble_eq_true rfl⟩ hZ hK hP hD hS hA 7 0 rfl rfl [0, 1, 4] [2, 3, 5, 6, 7] [5, 6, 0, 1, 7, 2, 3, 4] rfl rfl rfl rfl (by decide) rfl rfl (fun H locs hP hD hS => ?_)
    exact k_Mo_frame_187 C hK hA x1 x4 x5 x6 t0 win won whn wpl wdn_184 wfo wmn wpn wbn wcn wat wnu wif wof whf wdf_184 wmf wpf wlf kh134 ih134 hf hP hD hS (lv_sub hl [1, 2, 3, 4, 5, 0] rfl)
noncomputable def b_Mo_frame_134 (N : Nat) (x1 : Int32) (x4 : Int32) (x5 : Int32) (win : Int32) (won : Int32) (whn : Int32) (wif : Nat → Int32) (wof : Nat → Int32) (whf : Nat → Int32)  (kh134 : Int32 → Int32 → Int32 → Int32 → Int32 → (Nat → Int32) → (Nat → Int32) → (Nat → Int32) → (Nat → Int64) → Option (Int32 × Int32 × Int32 × Int32 × Int32 × Int32 × (Nat → Int32) × (Nat → Int32) × (Nat → Int32) × (Nat → Int32) × (Nat → Int64))) (x6 : Int32) (wdn : Int32) (wfo : Int32) (wmn : Int32) (wpn : Int32) (wdf : Nat → Int32) (wmf : Nat → Int32) (wpf : Nat → Int32) (wlf : Nat → Int64) : Option (Int32 × Int32 × Int32 × Int32 × Int32 × Int32 × (Nat → Int32) × (Nat → Int32) × (Nat → Int32) × (Nat → Int32) × (Nat → Int64)) :=
  (if win ≤ x6 then bd2 (f_Mo_makeNumber N (0 : Int64) (4 : Int32) wmn wmf) (fun wmn_355 wmf_355 => (if (x1 &&& (4 : Int32)) = 0 then (j_Mo_frame_382 N won wdn wfo wmn_355 wpn wof wdf wmf_355 wpf wlf ) else bd2 (f_Mo_sumOf N 8000 (0 : Int32) win wlf wif) (fun r375 wlf_375 => bd2 (f_Mo_makeNumber N r375 (4 : Int32) wmn_355 wmf_355) (fun wmn_379 wmf_379 => (j_Mo_frame_382 N won wdn wfo wmn_379 wpn wof wdf wmf_379 wpf wlf_375 ))))) else (if win ≤ (x6 + x4) then (j_Mo_frame_167 N x1 x4 x5 x6 win whn wfo wmn wif whf wdf wmf wpf wlf kh134) else (j_Mo_frame_167 N x1 x4 x5 x6 (x6 + x4) whn wfo wmn wif whf wdf wmf wpf wlf kh134)))
set_option maxHeartbeats 4000000 in
set_option maxRecDepth 100000 in
theorem k_Mo_frame_134 {r_z : Int32} {won_z : Int32} {wdn_z : Int32} {wfo_z : Int32} {wmn_z : Int32} {wpn_z : Int32} {wof_z : Nat → Int32} {wdf_z : Nat → Int32} {wmf_z : Nat → Int32} {wpf_z : Nat → Int32} {wlf_z : Nat → Int64} (C : Fx p s m args meth c cd_Mo_frame 12 R_Mo lw_g (some .int)) (hK : va_K (dC, dI) vwCl [(cB, .byte), (cI, .int), (cJ, .long)] s) (hA : ∀ q, s.heap.size ≤ q → A q) (x1 : Int32) (x4 : Int32) (x5 : Int32) (win : Int32) (won : Int32) (whn : Int32) (wpl : Int32) (wbn : Int32) (wcn : Int32) (wat : Int32) (wnu : Int32) (wif : Nat → Int32) (wof : Nat → Int32) (whf : Nat → Int32)  : ∀ (n : Nat) (x6 : Int32) (wdn : Int32) (wfo : Int32) (wmn : Int32) (wpn : Int32) (wdf : Nat → Int32) (wmf : Nat → Int32) (wpf : Nat → Int32) (wlf : Nat → Int64), loop9 (b_Mo_frame_134 N x1 x4 x5 win won whn wif wof whf ) n x6 wdn wfo wmn wpn wdf wmf wpf wlf = some (r_z, won_z, wdn_z, wfo_z, wmn_z, wpn_z, wof_z, wdf_z, wmf_z, wpf_z, wlf_z) → ∀ (H : Heap) (locs : List Loc), va_P (dC, dI) vwCl (wd_Mo_frame w wi wo wh wd wm wp wl wb wc cB cI cJ win won whn wpl wdn wfo wmn wpn wbn wcn wat wnu wif wof whf wdf wmf wpf wlf) H → va_D A (wd_Mo_frame w wi wo wh wd wm wp wl wb wc cB cI cJ win won whn wpl wdn wfo wmn wpn wbn wcn wat wnu wif wof whf wdf wmf wpf wlf) → va_S A s.heap H locs → ∀ (ls : Array Slot), lv_has ls 12 [(0, .ref w), (1, .int x1), (4, .int x4), (5, .int x5), (6, .int x6)] → W p l e rm_Mo_frame s m args below meth c H locs 0 0 (MQ below (sQi (dC, dI) vwCl [(cB, .byte), (cI, .int), (cJ, .long)] A r_z (wd_Mo_frame w wi wo wh wd wm wp wl wb wc cB cI cJ win won_z whn wpl wdn_z wfo_z wmn_z wpn_z wbn wcn wat wnu wif wof_z whf wdf_z wmf_z wpf_z wlf_z)) args s 0 0 A) (F0 m 134 ls []) := by
  obtain ⟨hx, hb, hml, hown, hts, hr, hlocks, hZ⟩ := id C
  intro n
  induction n with
  | zero => intro x6 wdn wfo wmn wpn wdf wmf wpf wlf hf; cases hf
  | succ n ih134 =>
    intro x6 wdn wfo wmn wpn wdf wmf wpf wlf hf H locs hP hD hS ls hl
    have hf : b_Mo_frame_134 N x1 x4 x5 win won whn wif wof whf  (loop9 (b_Mo_frame_134 N x1 x4 x5 win won whn wif wof whf ) n) x6 wdn wfo wmn wpn wdf wmf wpf wlf = some (r_z, won_z, wdn_z, wfo_z, wmn_z, wpn_z, wof_z, wdf_z, wmf_z, wpf_z, wlf_z) := hf
    generalize loop9 (b_Mo_frame_134 N x1 x4 x5 win won whn wif wof whf ) n = kh134 at hf ih134
    unfold b_Mo_frame_134 at hf
    refine lv_iload hx hb d_Mo_frame_134 (lv_at hl 4 rfl) ?_
    refine lv_aload_n hx hb d_Mo_frame_136 rfl (lv_at hl 0 rfl) ?_
    refine va_get (D := (dC, dI)) (ci := 7) (v := .int win) (C := R_Mo) (T := T_Mo) (N := 21) hx hb hts w_351 hown hK hP 0 rfl rfl 3 (by decide) (hts _ w_362) (fun _ h9 => h9) rfl d_Mo_frame_137 ?_
    refine lv_icmp_ge (tgt := 352) hx hb d_Mo_frame_140 (by decide) (fun c_140 => ?_) (fun c_140 => ?_)
    · have hf := br_pos c_140 hf
      refine lv_aload_n hx hb d_Mo_frame_352 rfl (lv_at hl 0 rfl) ?_
      refine lv_lconst (v := 0) hx hb d_Mo_frame_353 (by decide) ?_
      refine lv_iconst (v := 4) hx hb d_Mo_frame_354 (by decide) ?_
      obtain ⟨wmn_355, wmf_355, hc355, hf⟩ := bd2_some hf
      refine s_Vv (As := [.long (0 : Int64), .int (4 : Int32)]) (rest := []) (wr := [(wi, .inl (cI, 8000, .inl wif)), (wo, .inl (cI, 8000, .inl wof)), (wh, .inl (cI, 8000, .inl whf)), (wd, .inl (cI, 16000, .inl wdf)), (wp, .inl (cI, 9000, .inl wpf)), (wl, .inl (cJ, 4, .inr (.inl wlf)))]) (ws' := wd_Mo_frame w wi wo wh wd wm wp wl wb wc cB cI cJ win won whn wpl wdn wfo wmn_355 wpn wbn wcn wat wnu wif wof whf wdf wmf_355 wpf wlf) C.call (c_Mo_makeNumber l dC dI cB cI cJ w wm wi wo wh wd wp wb wc wl  win won whn wpl wdn wfo wmn wpn wbn wcn wat wnu wmf (0 : Int64) (4 : Int32) hc355) (cwV 2 hts (gd_V w_437 w_438 w_439 w_357 w_440) rfl rfl rfl ⟨rfl, hd_Mo_makeNumber⟩ ⟨Nat.le_of_ble_eq_true rfl, Nat.le_of_ble_eq_true rfl⟩) rfl hl.1 rfl (Nat.le_of_ble_eq_true rfl) d_Mo_frame_355 ⟨Nat.le_of_ble_eq_true rfl, Nat.le_of_ble_eq_true rfl⟩ hZ hK hP hD hS hA 7 0 rfl rfl [0, 5] [1, 2, 3, 4, 6, 7] [6, 0, 1, 2, 3, 7, 4, 5] rfl rfl rfl rfl (by decide) rfl rfl (fun H locs hP hD hS => ?_)
      refine lv_iload_n hx hb d_Mo_frame_358 rfl (lv_at hl 1 rfl) ?_
      refine lv_iconst (v := 4) hx hb d_Mo_frame_359 (by decide) ?_
      refine lv_iand hx hb d_Mo_frame_360 ?_
      refine lv_if_eq (tgt := 382) hx hb d_Mo_frame_361 (by decide) (fun c_361 => ?_) (fun c_361 => ?_)
      · have hf := br_pos c_361 hf
        exact k_Mo_frame_382 C hK hA win won whn wpl wdn wfo wmn_355 wpn wbn wcn wat wnu wif wof whf wdf wmf_355 wpf wlf  hf hP hD hS (lv_sub hl [0] rfl)
      · have hf := br_neg c_361 hf
        refine lv_aload_n hx hb d_Mo_frame_364 rfl (lv_at hl 0 rfl) ?_
        refine lv_aload_n hx hb d_Mo_frame_365 rfl (lv_at hl 0 rfl) ?_
        refine lv_aload_n hx hb d_Mo_frame_366 rfl (lv_at hl 0 rfl) ?_
        refine va_get (D := (dC, dI)) (ci := 7) (v := .ref wi) (C := R_Mo) (T := T_Mo) (N := 21) hx hb hts w_351 hown hK hP 0 rfl rfl 0 (by decide) (hts _ w_361) (fun _ h9 => h9) rfl d_Mo_frame_367 ?_
        refine lv_iconst (v := 0) hx hb d_Mo_frame_370 (by decide) ?_
        refine lv_aload_n hx hb d_Mo_frame_371 rfl (lv_at hl 0 rfl) ?_
        refine va_get (D := (dC, dI)) (ci := 7) (v := .int win) (C := R_Mo) (T := T_Mo) (N := 21) hx hb hts w_351 hown hK hP 0 rfl rfl 3 (by decide) (hts _ w_362) (fun _ h9 => h9) rfl d_Mo_frame_372 ?_
        obtain ⟨r375, wlf_375, hc375, hf⟩ := bd2_some hf
        refine s_Vl (As := [.ref wi, .int (0 : Int32), .int win]) (rest := [.ref w]) (wr := [(wo, .inl (cI, 8000, .inl wof)), (wh, .inl (cI, 8000, .inl whf)), (wd, .inl (cI, 16000, .inl wdf)), (wm, .inl (cI, 9000, .inl wmf_355)), (wp, .inl (cI, 9000, .inl wpf))]) (ws' := wd_Mo_frame w wi wo wh wd wm wp wl wb wc cB cI cJ win won whn wpl wdn wfo wmn_355 wpn wbn wcn wat wnu wif wof whf wdf wmf_355 wpf wlf_375) C.call (c_Mo_sumOf l dC dI cB cI cJ w wl wi wi wo wh wd wm wp wb wc 8000 win won whn wpl wdn wfo wmn_355 wpn wbn wcn wat wnu wlf wif (0 : Int32) win hc375) (cwV 3 hts (gd_V w_441 w_442 w_443 w_357 w_444) rfl rfl rfl ⟨rfl, hd_Mo_sumOf⟩ ⟨Nat.le_of_ble_eq_true rfl, Nat.le_of_ble_eq_true rfl⟩) rfl hl.1 rfl (Nat.le_of_ble_eq_true rfl) d_Mo_frame_375 ⟨Nat.le_of_ble_eq_true rfl, Nat.le_of_ble_eq_true rfl⟩ hZ hK hP hD hS hA 7 0 rfl rfl [0, 7, 1] [2, 3, 4, 5, 6] [5, 7, 0, 1, 2, 3, 4, 6] rfl rfl rfl rfl (by decide) rfl rfl (fun H locs hP hD hS => ?_)
        refine lv_iconst (v := 4) hx hb d_Mo_frame_378 (by decide) ?_
        obtain ⟨wmn_379, wmf_379, hc379, hf⟩ := bd2_some hf
        refine s_Vv (As := [.long r375, .int (4 : Int32)]) (rest := []) (wr := [(wi, .inl (cI, 8000, .inl wif)), (wo, .inl (cI, 8000, .inl wof)), (wh, .inl (cI, 8000, .inl whf)), (wd, .inl (cI, 16000, .inl wdf)), (wp, .inl (cI, 9000, .inl wpf)), (wl, .inl (cJ, 4, .inr (.inl wlf_375)))]) (ws' := wd_Mo_frame w wi wo wh wd wm wp wl wb wc cB cI cJ win won whn wpl wdn wfo wmn_379 wpn wbn wcn wat wnu wif wof whf wdf wmf_379 wpf wlf_375) C.call (c_Mo_makeNumber l dC dI cB cI cJ w wm wi wo wh wd wp wb wc wl  win won whn wpl wdn wfo wmn_355 wpn wbn wcn wat wnu wmf_355 r375 (4 : Int32) hc379) (cwV 2 hts (gd_V w_437 w_438 w_439 w_357 w_440) rfl rfl rfl ⟨rfl, hd_Mo_makeNumber⟩ ⟨Nat.le_of_ble_eq_true rfl, Nat.le_of_ble_eq_true rfl⟩) rfl hl.1 rfl (Nat.le_of_ble_eq_true rfl) d_Mo_frame_379 ⟨Nat.le_of_ble_eq_true rfl, Nat.le_of_ble_eq_true rfl⟩ hZ hK hP hD hS hA 7 0 rfl rfl [0, 5] [1, 2, 3, 4, 6, 7] [6, 0, 1, 2, 3, 7, 4, 5] rfl rfl rfl rfl (by decide) rfl rfl (fun H locs hP hD hS => ?_)
        exact k_Mo_frame_382 C hK hA win won whn wpl wdn wfo wmn_379 wpn wbn wcn wat wnu wif wof whf wdf wmf_379 wpf wlf_375  hf hP hD hS (lv_sub hl [0] rfl)
    · have hf := br_neg c_140 hf
      refine lv_iload hx hb d_Mo_frame_143 (lv_at hl 4 rfl) ?_
      refine lv_iload hx hb d_Mo_frame_145 (lv_at hl 2 rfl) ?_
      refine lv_iadd hx hb d_Mo_frame_147 ?_
      refine lv_aload_n hx hb d_Mo_frame_148 rfl (lv_at hl 0 rfl) ?_
      refine va_get (D := (dC, dI)) (ci := 7) (v := .int win) (C := R_Mo) (T := T_Mo) (N := 21) hx hb hts w_351 hown hK hP 0 rfl rfl 3 (by decide) (hts _ w_362) (fun _ h9 => h9) rfl d_Mo_frame_149 ?_
      refine lv_icmp_ge (tgt := 163) hx hb d_Mo_frame_152 (by decide) (fun c_152 => ?_) (fun c_152 => ?_)
      · have hf := br_pos c_152 hf
        refine lv_aload_n hx hb d_Mo_frame_163 rfl (lv_at hl 0 rfl) ?_
        refine va_get (D := (dC, dI)) (ci := 7) (v := .int win) (C := R_Mo) (T := T_Mo) (N := 21) hx hb hts w_351 hown hK hP 0 rfl rfl 3 (by decide) (hts _ w_362) (fun _ h9 => h9) rfl d_Mo_frame_164 ?_
        exact k_Mo_frame_167 C hK hA x1 x4 x5 x6 win win won whn wpl wdn wfo wmn wpn wbn wcn wat wnu wif wof whf wdf wmf wpf wlf kh134 ih134 hf hP hD hS (lv_sub hl [0, 1, 2, 3, 4] rfl)
      · have hf := br_neg c_152 hf
        refine lv_iload hx hb d_Mo_frame_155 (lv_at hl 4 rfl) ?_
        refine lv_iload hx hb d_Mo_frame_157 (lv_at hl 2 rfl) ?_
        refine lv_iadd hx hb d_Mo_frame_159 ?_
        refine lv_goto (tgt := 167) hx hb d_Mo_frame_160 (by decide) ?_
        exact k_Mo_frame_167 C hK hA x1 x4 x5 x6 (x6 + x4) win won whn wpl wdn wfo wmn wpn wbn wcn wat wnu wif wof whf wdf wmf wpf wlf kh134 ih134 hf hP hD hS (lv_sub hl [0, 1, 2, 3, 4] rfl)
noncomputable def j_Mo_frame_106 (N : Nat) (x1 : Int32) (x4 : Int32) (x5 : Int32) (win : Int32) (won : Int32) (whn : Int32) (wdn : Int32) (wfo : Int32) (wmn : Int32) (wpn : Int32) (wif : Nat → Int32) (wof : Nat → Int32) (whf : Nat → Int32) (wdf : Nat → Int32) (wmf : Nat → Int32) (wpf : Nat → Int32) (wlf : Nat → Int64)  : Option (Int32 × Int32 × Int32 × Int32 × Int32 × Int32 × (Nat → Int32) × (Nat → Int32) × (Nat → Int32) × (Nat → Int32) × (Nat → Int64)) :=
  bd2 (f_Mo_sumOf N 9000 (4 : Int32) wmn wlf wmf) (fun r117 wlf_117 => bd2 (f_Mo_make (((sr64 r117 (8 : Int32)) &&& (255 : Int64)).toInt32) wmn wmf) (fun wmn_128 wmf_128 => (loop9 (b_Mo_frame_134 N x1 x4 x5 win won whn wif wof whf ) N (0 : Int32) wdn wfo wmn_128 wpn wdf wmf_128 wpf wlf_117)))
set_option maxHeartbeats 4000000 in
set_option maxRecDepth 100000 in
theorem k_Mo_frame_106 {r_z : Int32} {won_z : Int32} {wdn_z : Int32} {wfo_z : Int32} {wmn_z : Int32} {wpn_z : Int32} {wof_z : Nat → Int32} {wdf_z : Nat → Int32} {wmf_z : Nat → Int32} {wpf_z : Nat → Int32} {wlf_z : Nat → Int64} (C : Fx p s m args meth c cd_Mo_frame 12 R_Mo lw_g (some .int)) (hK : va_K (dC, dI) vwCl [(cB, .byte), (cI, .int), (cJ, .long)] s) (hA : ∀ q, s.heap.size ≤ q → A q) (x1 : Int32) (x4 : Int32) (x5 : Int32) (win : Int32) (won : Int32) (whn : Int32) (wpl : Int32) (wdn : Int32) (wfo : Int32) (wmn : Int32) (wpn : Int32) (wbn : Int32) (wcn : Int32) (wat : Int32) (wnu : Int32) (wif : Nat → Int32) (wof : Nat → Int32) (whf : Nat → Int32) (wdf : Nat → Int32) (wmf : Nat → Int32) (wpf : Nat → Int32) (wlf : Nat → Int64)  (hf : j_Mo_frame_106 N x1 x4 x5 win won whn wdn wfo wmn wpn wif wof whf wdf wmf wpf wlf  = some (r_z, won_z, wdn_z, wfo_z, wmn_z, wpn_z, wof_z, wdf_z, wmf_z, wpf_z, wlf_z)) (hP : va_P (dC, dI) vwCl (wd_Mo_frame w wi wo wh wd wm wp wl wb wc cB cI cJ win won whn wpl wdn wfo wmn wpn wbn wcn wat wnu wif wof whf wdf wmf wpf wlf) H) (hD : va_D A (wd_Mo_frame w wi wo wh wd wm wp wl wb wc cB cI cJ win won whn wpl wdn wfo wmn wpn wbn wcn wat wnu wif wof whf wdf wmf wpf wlf)) (hS : va_S A s.heap H locs) (hl : lv_has ls 12 [(0, .ref w), (1, .int x1), (4, .int x4), (5, .int x5)]) : W p l e rm_Mo_frame s m args below meth c H locs 0 0 (MQ below (sQi (dC, dI) vwCl [(cB, .byte), (cI, .int), (cJ, .long)] A r_z (wd_Mo_frame w wi wo wh wd wm wp wl wb wc cB cI cJ win won_z whn wpl wdn_z wfo_z wmn_z wpn_z wbn wcn wat wnu wif wof_z whf wdf_z wmf_z wpf_z wlf_z)) args s 0 0 A) (F0 m 106 ls []) := by
  obtain ⟨hx, hb, hml, hown, hts, hr, hlocks, hZ⟩ := id C
  unfold j_Mo_frame_106 at hf
  refine lv_aload_n hx hb d_Mo_frame_106 rfl (lv_at hl 0 rfl) ?_
  refine lv_aload_n hx hb d_Mo_frame_107 rfl (lv_at hl 0 rfl) ?_
  refine lv_aload_n hx hb d_Mo_frame_108 rfl (lv_at hl 0 rfl) ?_
  refine va_get (D := (dC, dI)) (ci := 7) (v := .ref wm) (C := R_Mo) (T := T_Mo) (N := 21) hx hb hts w_351 hown hK hP 0 rfl rfl 10 (by decide) (hts _ w_411) (fun _ h9 => h9) rfl d_Mo_frame_109 ?_
  refine lv_iconst (v := 4) hx hb d_Mo_frame_112 (by decide) ?_
  refine lv_aload_n hx hb d_Mo_frame_113 rfl (lv_at hl 0 rfl) ?_
  refine va_get (D := (dC, dI)) (ci := 7) (v := .int wmn) (C := R_Mo) (T := T_Mo) (N := 21) hx hb hts w_351 hown hK hP 0 rfl rfl 11 (by decide) (hts _ w_410) (fun _ h9 => h9) rfl d_Mo_frame_114 ?_
  obtain ⟨r117, wlf_117, hc117, hf⟩ := bd2_some hf
  refine s_Vl (As := [.ref wm, .int (4 : Int32), .int wmn]) (rest := [.ref w]) (wr := [(wi, .inl (cI, 8000, .inl wif)), (wo, .inl (cI, 8000, .inl wof)), (wh, .inl (cI, 8000, .inl whf)), (wd, .inl (cI, 16000, .inl wdf)), (wp, .inl (cI, 9000, .inl wpf))]) (ws' := wd_Mo_frame w wi wo wh wd wm wp wl wb wc cB cI cJ win won whn wpl wdn wfo wmn wpn wbn wcn wat wnu wif wof whf wdf wmf wpf wlf_117) C.call (c_Mo_sumOf l dC dI cB cI cJ w wl wm wi wo wh wd wm wp wb wc 9000 win won whn wpl wdn wfo wmn wpn wbn wcn wat wnu wlf wmf (4 : Int32) wmn hc117) (cwV 3 hts (gd_V w_441 w_442 w_443 w_357 w_444) rfl rfl rfl ⟨rfl, hd_Mo_sumOf⟩ ⟨Nat.le_of_ble_eq_true rfl, Nat.le_of_ble_eq_true rfl⟩) rfl hl.1 rfl (Nat.le_of_ble_eq_true rfl) d_Mo_frame_117 ⟨Nat.le_of_ble_eq_true rfl, Nat.le_of_ble_eq_true rfl⟩ hZ hK hP hD hS hA 7 0 rfl rfl [0, 7, 5] [1, 2, 3, 4, 6] [5, 0, 1, 2, 3, 7, 4, 6] rfl rfl rfl rfl (by decide) rfl rfl (fun H locs hP hD hS => ?_)
  refine lv_bipush (v := 8) hx hb d_Mo_frame_120 (by decide) ?_
  refine lv_lshr (v := (sr64 r117 (8 : Int32))) hx hb d_Mo_frame_122 rfl ?_
  refine lv_ldc2 (v := 255) hx hb hown (hts _ w_412) d_Mo_frame_123 ?_
  refine lv_land hx hb d_Mo_frame_126 ?_
  refine lv_l2i (v := (((sr64 r117 (8 : Int32)) &&& (255 : Int64)).toInt32)) hx hb d_Mo_frame_127 rfl ?_
  obtain ⟨wmn_128, wmf_128, hc128, hf⟩ := bd2_some hf
  refine s_Vv (As := [.int (((sr64 r117 (8 : Int32)) &&& (255 : Int64)).toInt32)]) (rest := []) (wr := [(wi, .inl (cI, 8000, .inl wif)), (wo, .inl (cI, 8000, .inl wof)), (wh, .inl (cI, 8000, .inl whf)), (wd, .inl (cI, 16000, .inl wdf)), (wp, .inl (cI, 9000, .inl wpf)), (wl, .inl (cJ, 4, .inr (.inl wlf_117)))]) (ws' := wd_Mo_frame w wi wo wh wd wm wp wl wb wc cB cI cJ win won whn wpl wdn wfo wmn_128 wpn wbn wcn wat wnu wif wof whf wdf wmf_128 wpf wlf_117) C.call (c_Mo_make l dC dI cB cI cJ w wm wi wo wh wd wp wb wc wl  win won whn wpl wdn wfo wmn wpn wbn wcn wat wnu wmf (((sr64 r117 (8 : Int32)) &&& (255 : Int64)).toInt32) hc128) (cwV 1 hts (gd_V w_413 w_414 w_415 w_357 w_416) rfl rfl rfl ⟨rfl, hd_Mo_make⟩ ⟨Nat.le_of_ble_eq_true rfl, Nat.le_of_ble_eq_true rfl⟩) rfl hl.1 rfl (Nat.le_of_ble_eq_true rfl) d_Mo_frame_128 ⟨Nat.le_of_ble_eq_true rfl, Nat.le_of_ble_eq_true rfl⟩ hZ hK hP hD hS hA 7 0 rfl rfl [0, 5] [1, 2, 3, 4, 6, 7] [6, 0, 1, 2, 3, 7, 4, 5] rfl rfl rfl rfl (by decide) rfl rfl (fun H locs hP hD hS => ?_)
  refine lv_iconst (v := 0) hx hb d_Mo_frame_131 (by decide) ?_
  refine lv_istore (lv' := [(6, .int (0 : Int32)), (0, .ref w), (1, .int x1), (4, .int x4), (5, .int x5)]) hx hb d_Mo_frame_132 hl (by decide) rfl (fun ls hl => ?_)
  exact k_Mo_frame_134 C hK hA x1 x4 x5 win won whn wpl wbn wcn wat wnu wif wof whf  N (0 : Int32) wdn wfo wmn_128 wpn wdf wmf_128 wpf wlf_117 hf _ _ hP hD hS _ (lv_sub hl [1, 2, 3, 4, 0] rfl)
noncomputable def j_Mo_frame_89 (N : Nat) (x1 : Int32) (x3 : Int32) (x4 : Int32) (x5 : Int32) (win : Int32) (won : Int32) (whn : Int32) (wdn : Int32) (wfo : Int32) (wmn : Int32) (wpn : Int32) (wif : Nat → Int32) (wof : Nat → Int32) (whf : Nat → Int32) (wdf : Nat → Int32) (wmf : Nat → Int32) (wpf : Nat → Int32) (wlf : Nat → Int64)  : Option (Int32 × Int32 × Int32 × Int32 × Int32 × Int32 × (Nat → Int32) × (Nat → Int32) × (Nat → Int32) × (Nat → Int32) × (Nat → Int64)) :=
  (if (x1 &&& (1 : Int32)) = 0 then (j_Mo_frame_106 N x1 x4 x5 win won whn wdn wfo wmn wpn wif wof whf wdf wmf wpf wlf ) else bd2 (f_Mo_makeNumber N ((x3.toInt64) &&& (4294967295 : Int64)) (4 : Int32) wmn wmf) (fun wmn_103 wmf_103 => (j_Mo_frame_106 N x1 x4 x5 win won whn wdn wfo wmn_103 wpn wif wof whf wdf wmf_103 wpf wlf )))
set_option maxHeartbeats 4000000 in
set_option maxRecDepth 100000 in
theorem k_Mo_frame_89 {r_z : Int32} {won_z : Int32} {wdn_z : Int32} {wfo_z : Int32} {wmn_z : Int32} {wpn_z : Int32} {wof_z : Nat → Int32} {wdf_z : Nat → Int32} {wmf_z : Nat → Int32} {wpf_z : Nat → Int32} {wlf_z : Nat → Int64} (C : Fx p s m args meth c cd_Mo_frame 12 R_Mo lw_g (some .int)) (hK : va_K (dC, dI) vwCl [(cB, .byte), (cI, .int), (cJ, .long)] s) (hA : ∀ q, s.heap.size ≤ q → A q) (x1 : Int32) (x3 : Int32) (x4 : Int32) (x5 : Int32) (win : Int32) (won : Int32) (whn : Int32) (wpl : Int32) (wdn : Int32) (wfo : Int32) (wmn : Int32) (wpn : Int32) (wbn : Int32) (wcn : Int32) (wat : Int32) (wnu : Int32) (wif : Nat → Int32) (wof : Nat → Int32) (whf : Nat → Int32) (wdf : Nat → Int32) (wmf : Nat → Int32) (wpf : Nat → Int32) (wlf : Nat → Int64)  (hf : j_Mo_frame_89 N x1 x3 x4 x5 win won whn wdn wfo wmn wpn wif wof whf wdf wmf wpf wlf  = some (r_z, won_z, wdn_z, wfo_z, wmn_z, wpn_z, wof_z, wdf_z, wmf_z, wpf_z, wlf_z)) (hP : va_P (dC, dI) vwCl (wd_Mo_frame w wi wo wh wd wm wp wl wb wc cB cI cJ win won whn wpl wdn wfo wmn wpn wbn wcn wat wnu wif wof whf wdf wmf wpf wlf) H) (hD : va_D A (wd_Mo_frame w wi wo wh wd wm wp wl wb wc cB cI cJ win won whn wpl wdn wfo wmn wpn wbn wcn wat wnu wif wof whf wdf wmf wpf wlf)) (hS : va_S A s.heap H locs) (hl : lv_has ls 12 [(0, .ref w), (1, .int x1), (3, .int x3), (4, .int x4), (5, .int x5)]) : W p l e rm_Mo_frame s m args below meth c H locs 0 0 (MQ below (sQi (dC, dI) vwCl [(cB, .byte), (cI, .int), (cJ, .long)] A r_z (wd_Mo_frame w wi wo wh wd wm wp wl wb wc cB cI cJ win won_z whn wpl wdn_z wfo_z wmn_z wpn_z wbn wcn wat wnu wif wof_z whf wdf_z wmf_z wpf_z wlf_z)) args s 0 0 A) (F0 m 89 ls []) := by
  obtain ⟨hx, hb, hml, hown, hts, hr, hlocks, hZ⟩ := id C
  unfold j_Mo_frame_89 at hf
  refine lv_iload_n hx hb d_Mo_frame_89 rfl (lv_at hl 1 rfl) ?_
  refine lv_iconst (v := 1) hx hb d_Mo_frame_90 (by decide) ?_
  refine lv_iand hx hb d_Mo_frame_91 ?_
  refine lv_if_eq (tgt := 106) hx hb d_Mo_frame_92 (by decide) (fun c_92 => ?_) (fun c_92 => ?_)
  · have hf := br_pos c_92 hf
    exact k_Mo_frame_106 C hK hA x1 x4 x5 win won whn wpl wdn wfo wmn wpn wbn wcn wat wnu wif wof whf wdf wmf wpf wlf  hf hP hD hS (lv_sub hl [0, 1, 3, 4] rfl)
  · have hf := br_neg c_92 hf
    refine lv_aload_n hx hb d_Mo_frame_95 rfl (lv_at hl 0 rfl) ?_
    refine lv_iload_n hx hb d_Mo_frame_96 rfl (lv_at hl 2 rfl) ?_
    refine lv_i2l (v := (x3.toInt64)) hx hb d_Mo_frame_97 rfl ?_
    refine lv_ldc2 (v := 4294967295) hx hb hown (hts _ w_417) d_Mo_frame_98 ?_
    refine lv_land hx hb d_Mo_frame_101 ?_
    refine lv_iconst (v := 4) hx hb d_Mo_frame_102 (by decide) ?_
    obtain ⟨wmn_103, wmf_103, hc103, hf⟩ := bd2_some hf
    refine s_Vv (As := [.long ((x3.toInt64) &&& (4294967295 : Int64)), .int (4 : Int32)]) (rest := []) (wr := [(wi, .inl (cI, 8000, .inl wif)), (wo, .inl (cI, 8000, .inl wof)), (wh, .inl (cI, 8000, .inl whf)), (wd, .inl (cI, 16000, .inl wdf)), (wp, .inl (cI, 9000, .inl wpf)), (wl, .inl (cJ, 4, .inr (.inl wlf)))]) (ws' := wd_Mo_frame w wi wo wh wd wm wp wl wb wc cB cI cJ win won whn wpl wdn wfo wmn_103 wpn wbn wcn wat wnu wif wof whf wdf wmf_103 wpf wlf) C.call (c_Mo_makeNumber l dC dI cB cI cJ w wm wi wo wh wd wp wb wc wl  win won whn wpl wdn wfo wmn wpn wbn wcn wat wnu wmf ((x3.toInt64) &&& (4294967295 : Int64)) (4 : Int32) hc103) (cwV 2 hts (gd_V w_437 w_438 w_439 w_357 w_440) rfl rfl rfl ⟨rfl, hd_Mo_makeNumber⟩ ⟨Nat.le_of_ble_eq_true rfl, Nat.le_of_ble_eq_true rfl⟩) rfl hl.1 rfl (Nat.le_of_ble_eq_true rfl) d_Mo_frame_103 ⟨Nat.le_of_ble_eq_true rfl, Nat.le_of_ble_eq_true rfl⟩ hZ hK hP hD hS hA 7 0 rfl rfl [0, 5] [1, 2, 3, 4, 6, 7] [6, 0, 1, 2, 3, 7, 4, 5] rfl rfl rfl rfl (by decide) rfl rfl (fun H locs hP hD hS => ?_)
    exact k_Mo_frame_106 C hK hA x1 x4 x5 win won whn wpl wdn wfo wmn_103 wpn wbn wcn wat wnu wif wof whf wdf wmf_103 wpf wlf  hf hP hD hS (lv_sub hl [0, 1, 3, 4] rfl)
noncomputable def j_Mo_frame_0 (N : Nat) (x1 : Int32) (x2 : Int32) (x3 : Int32) (x4 : Int32) (x5 : Int32) (win : Int32) (won : Int32) (whn : Int32) (wdn : Int32) (wfo : Int32) (wmn : Int32) (wpn : Int32) (wif : Nat → Int32) (wof : Nat → Int32) (whf : Nat → Int32) (wdf : Nat → Int32) (wmf : Nat → Int32) (wpf : Nat → Int32) (wlf : Nat → Int64)  : Option (Int32 × Int32 × Int32 × Int32 × Int32 × Int32 × (Nat → Int32) × (Nat → Int32) × (Nat → Int32) × (Nat → Int32) × (Nat → Int64)) :=
  bd1 (f_Mo_areFlags x1) (fun r1 => (if r1 = 0 then (some ((-1 : Int32), won, wdn, wfo, wmn, wpn, wof, wdf, wmf, wpf, wlf) : Option (Int32 × Int32 × Int32 × Int32 × Int32 × Int32 × (Nat → Int32) × (Nat → Int32) × (Nat → Int32) × (Nat → Int32) × (Nat → Int64))) else (if x2 < (4 : Int32) then (some ((-1 : Int32), won, wdn, wfo, wmn, wpn, wof, wdf, wmf, wpf, wlf) : Option (Int32 × Int32 × Int32 × Int32 × Int32 × Int32 × (Nat → Int32) × (Nat → Int32) × (Nat → Int32) × (Nat → Int32) × (Nat → Int64))) else (if (7 : Int32) < x2 then (some ((-1 : Int32), won, wdn, wfo, wmn, wpn, wof, wdf, wmf, wpf, wlf) : Option (Int32 × Int32 × Int32 × Int32 × Int32 × Int32 × (Nat → Int32) × (Nat → Int32) × (Nat → Int32) × (Nat → Int32) × (Nat → Int64))) else (if x4 < (1 : Int32) then (some ((-1 : Int32), won, wdn, wfo, wmn, wpn, wof, wdf, wmf, wpf, wlf) : Option (Int32 × Int32 × Int32 × Int32 × Int32 × Int32 × (Nat → Int32) × (Nat → Int32) × (Nat → Int32) × (Nat → Int32) × (Nat → Int64))) else (if (8000 : Int32) < x4 then (some ((-1 : Int32), won, wdn, wfo, wmn, wpn, wof, wdf, wmf, wpf, wlf) : Option (Int32 × Int32 × Int32 × Int32 × Int32 × Int32 × (Nat → Int32) × (Nat → Int32) × (Nat → Int32) × (Nat → Int32) × (Nat → Int64))) else (if x5 < 0 then (some ((-1 : Int32), won, wdn, wfo, wmn, wpn, wof, wdf, wmf, wpf, wlf) : Option (Int32 × Int32 × Int32 × Int32 × Int32 × Int32 × (Nat → Int32) × (Nat → Int32) × (Nat → Int32) × (Nat → Int32) × (Nat → Int64))) else (if x5 ≤ (3 : Int32) then bd2 (f_Mo_makeNumber N (407708164 : Int64) (4 : Int32) (0 : Int32) wmf) (fun wmn_55 wmf_55 => bd2 (f_Mo_make x1 wmn_55 wmf_55) (fun wmn_60 wmf_60 => bd2 (f_Mo_make ((16 : Int32) * x2) wmn_60 wmf_60) (fun wmn_68 wmf_68 => (if (x1 &&& (8 : Int32)) = 0 then (j_Mo_frame_89 N x1 x3 x4 x5 win won whn wdn wfo wmn_68 wpn wif wof whf wdf wmf_68 wpf wlf ) else bd2 (f_Mo_makeNumber N (win.toInt64) (8 : Int32) wmn_68 wmf_68) (fun wmn_86 wmf_86 => (j_Mo_frame_89 N x1 x3 x4 x5 win won whn wdn wfo wmn_86 wpn wif wof whf wdf wmf_86 wpf wlf )))))) else (some ((-1 : Int32), won, wdn, wfo, wmn, wpn, wof, wdf, wmf, wpf, wlf) : Option (Int32 × Int32 × Int32 × Int32 × Int32 × Int32 × (Nat → Int32) × (Nat → Int32) × (Nat → Int32) × (Nat → Int32) × (Nat → Int64)))))))))))
set_option maxHeartbeats 4000000 in
set_option maxRecDepth 100000 in
theorem k_Mo_frame_0 {r_z : Int32} {won_z : Int32} {wdn_z : Int32} {wfo_z : Int32} {wmn_z : Int32} {wpn_z : Int32} {wof_z : Nat → Int32} {wdf_z : Nat → Int32} {wmf_z : Nat → Int32} {wpf_z : Nat → Int32} {wlf_z : Nat → Int64} (C : Fx p s m args meth c cd_Mo_frame 12 R_Mo lw_g (some .int)) (hK : va_K (dC, dI) vwCl [(cB, .byte), (cI, .int), (cJ, .long)] s) (hA : ∀ q, s.heap.size ≤ q → A q) (x1 : Int32) (x2 : Int32) (x3 : Int32) (x4 : Int32) (x5 : Int32) (win : Int32) (won : Int32) (whn : Int32) (wpl : Int32) (wdn : Int32) (wfo : Int32) (wmn : Int32) (wpn : Int32) (wbn : Int32) (wcn : Int32) (wat : Int32) (wnu : Int32) (wif : Nat → Int32) (wof : Nat → Int32) (whf : Nat → Int32) (wdf : Nat → Int32) (wmf : Nat → Int32) (wpf : Nat → Int32) (wlf : Nat → Int64)  (hf : j_Mo_frame_0 N x1 x2 x3 x4 x5 win won whn wdn wfo wmn wpn wif wof whf wdf wmf wpf wlf  = some (r_z, won_z, wdn_z, wfo_z, wmn_z, wpn_z, wof_z, wdf_z, wmf_z, wpf_z, wlf_z)) (hP : va_P (dC, dI) vwCl (wd_Mo_frame w wi wo wh wd wm wp wl wb wc cB cI cJ win won whn wpl wdn wfo wmn wpn wbn wcn wat wnu wif wof whf wdf wmf wpf wlf) H) (hD : va_D A (wd_Mo_frame w wi wo wh wd wm wp wl wb wc cB cI cJ win won whn wpl wdn wfo wmn wpn wbn wcn wat wnu wif wof whf wdf wmf wpf wlf)) (hS : va_S A s.heap H locs) (hl : lv_has ls 12 [(0, .ref w), (1, .int x1), (2, .int x2), (3, .int x3), (4, .int x4), (5, .int x5)]) : W p l e rm_Mo_frame s m args below meth c H locs 0 0 (MQ below (sQi (dC, dI) vwCl [(cB, .byte), (cI, .int), (cJ, .long)] A r_z (wd_Mo_frame w wi wo wh wd wm wp wl wb wc cB cI cJ win won_z whn wpl wdn_z wfo_z wmn_z wpn_z wbn wcn wat wnu wif wof_z whf wdf_z wmf_z wpf_z wlf_z)) args s 0 0 A) (F0 m 0 ls []) := by
  obtain ⟨hx, hb, hml, hown, hts, hr, hlocks, hZ⟩ := id C
  unfold j_Mo_frame_0 at hf
  refine lv_iload_n hx hb d_Mo_frame_0 rfl (lv_at hl 1 rfl) ?_
  obtain ⟨r1, hc1, hf⟩ := bd1_some hf
  refine s_Si (As := [.int x1]) (rest := []) (wr := [(w, .inr (7, [.ref wi, .ref wo, .ref wh, .int win, .int won, .int whn, .int wpl, .ref wd, .int wdn, .int wfo, .ref wm, .int wmn, .ref wp, .int wpn, .ref wb, .int wbn, .ref wc, .int wcn, .ref wl, .int wat, .int wnu])), (wi, .inl (cI, 8000, .inl wif)), (wo, .inl (cI, 8000, .inl wof)), (wh, .inl (cI, 8000, .inl whf)), (wd, .inl (cI, 16000, .inl wdf)), (wm, .inl (cI, 9000, .inl wmf)), (wp, .inl (cI, 9000, .inl wpf)), (wl, .inl (cJ, 4, .inr (.inl wlf)))]) (ws' := wd_Mo_frame w wi wo wh wd wm wp wl wb wc cB cI cJ win won whn wpl wdn wfo wmn wpn wbn wcn wat wnu wif wof whf wdf wmf wpf wlf) C.call (c_Mo_areFlags l dC dI cB cI cJ    x1 hc1) (va_cwS 1 hts (gd_S w_433 w_434 w_357 w_435) rfl rfl rfl hd_Mo_areFlags ⟨Nat.le_of_ble_eq_true rfl, Nat.le_of_ble_eq_true rfl⟩) rfl hl.1 rfl (Nat.le_of_ble_eq_true rfl) d_Mo_frame_1 ⟨Nat.le_of_ble_eq_true rfl, Nat.le_of_ble_eq_true rfl⟩ hZ hK hP hD hS hA [] [0, 1, 2, 3, 4, 5, 6, 7] [0, 1, 2, 3, 4, 5, 6, 7] rfl rfl rfl rfl (by decide) rfl rfl (fun H locs hP hD hS => ?_)
  refine lv_if_eq (tgt := 43) hx hb d_Mo_frame_4 (by decide) (fun c_4 => ?_) (fun c_4 => ?_)
  · have hf := br_pos c_4 hf
    refine lv_iconst (v := -1) hx hb d_Mo_frame_43 (by decide) ?_
    cases hf
    exact s_iret hx hb hr hlocks hP hK hD hS d_Mo_frame_44
  · have hf := br_neg c_4 hf
    refine lv_iload_n hx hb d_Mo_frame_7 rfl (lv_at hl 2 rfl) ?_
    refine lv_iconst (v := 4) hx hb d_Mo_frame_8 (by decide) ?_
    refine lv_icmp_lt (tgt := 43) hx hb d_Mo_frame_9 (by decide) (fun c_9 => ?_) (fun c_9 => ?_)
    · have hf := br_pos c_9 hf
      refine lv_iconst (v := -1) hx hb d_Mo_frame_43 (by decide) ?_
      cases hf
      exact s_iret hx hb hr hlocks hP hK hD hS d_Mo_frame_44
    · have hf := br_neg c_9 hf
      refine lv_iload_n hx hb d_Mo_frame_12 rfl (lv_at hl 2 rfl) ?_
      refine lv_bipush (v := 7) hx hb d_Mo_frame_13 (by decide) ?_
      refine lv_icmp_gt (tgt := 43) hx hb d_Mo_frame_15 (by decide) (fun c_15 => ?_) (fun c_15 => ?_)
      · have hf := br_pos c_15 hf
        refine lv_iconst (v := -1) hx hb d_Mo_frame_43 (by decide) ?_
        cases hf
        exact s_iret hx hb hr hlocks hP hK hD hS d_Mo_frame_44
      · have hf := br_neg c_15 hf
        refine lv_iload hx hb d_Mo_frame_18 (lv_at hl 4 rfl) ?_
        refine lv_iconst (v := 1) hx hb d_Mo_frame_20 (by decide) ?_
        refine lv_icmp_lt (tgt := 43) hx hb d_Mo_frame_21 (by decide) (fun c_21 => ?_) (fun c_21 => ?_)
        · have hf := br_pos c_21 hf
          refine lv_iconst (v := -1) hx hb d_Mo_frame_43 (by decide) ?_
          cases hf
          exact s_iret hx hb hr hlocks hP hK hD hS d_Mo_frame_44
        · have hf := br_neg c_21 hf
          refine lv_iload hx hb d_Mo_frame_24 (lv_at hl 4 rfl) ?_
          refine lv_sipush (v := 8000) hx hb d_Mo_frame_26 (by decide) ?_
          refine lv_icmp_gt (tgt := 43) hx hb d_Mo_frame_29 (by decide) (fun c_29 => ?_) (fun c_29 => ?_)
          · have hf := br_pos c_29 hf
            refine lv_iconst (v := -1) hx hb d_Mo_frame_43 (by decide) ?_
            cases hf
            exact s_iret hx hb hr hlocks hP hK hD hS d_Mo_frame_44
          · have hf := br_neg c_29 hf
            refine lv_iload hx hb d_Mo_frame_32 (lv_at hl 5 rfl) ?_
            refine lv_if_lt (tgt := 43) hx hb d_Mo_frame_34 (by decide) (fun c_34 => ?_) (fun c_34 => ?_)
            · have hf := br_pos c_34 hf
              refine lv_iconst (v := -1) hx hb d_Mo_frame_43 (by decide) ?_
              cases hf
              exact s_iret hx hb hr hlocks hP hK hD hS d_Mo_frame_44
            · have hf := br_neg c_34 hf
              refine lv_iload hx hb d_Mo_frame_37 (lv_at hl 5 rfl) ?_
              refine lv_iconst (v := 3) hx hb d_Mo_frame_39 (by decide) ?_
              refine lv_icmp_le (tgt := 45) hx hb d_Mo_frame_40 (by decide) (fun c_40 => ?_) (fun c_40 => ?_)
              · have hf := br_pos c_40 hf
                refine lv_aload_n hx hb d_Mo_frame_45 rfl (lv_at hl 0 rfl) ?_
                refine lv_iconst (v := 0) hx hb d_Mo_frame_46 (by decide) ?_
                refine va_put (D := (dC, dI)) (ci := 7) (v := .int (0 : Int32)) (ty := .int) (C := R_Mo) (T := T_Mo) (N := 21) hx hb hts w_351 ty_Mo ty_Mo_ok nm_Mo hown hK hP hD hS 0 rfl rfl 11 (by decide) (hts _ w_410) (fun _ h9 => h9) rfl (by decide +kernel) rfl rfl (Nat.le_of_ble_eq_true rfl) d_Mo_frame_47 (fun H locs hP hD hS => ?_)
                have hP : va_P (dC, dI) vwCl (wd_Mo_frame w wi wo wh wd wm wp wl wb wc cB cI cJ win won whn wpl wdn wfo (0 : Int32) wpn wbn wcn wat wnu wif wof whf wdf wmf wpf wlf) H := hP
                have hD : va_D A (wd_Mo_frame w wi wo wh wd wm wp wl wb wc cB cI cJ win won whn wpl wdn wfo (0 : Int32) wpn wbn wcn wat wnu wif wof whf wdf wmf wpf wlf) := hD
                refine lv_aload_n hx hb d_Mo_frame_50 rfl (lv_at hl 0 rfl) ?_
                refine lv_ldc2 (v := 407708164) hx hb hown (hts _ w_436) d_Mo_frame_51 ?_
                refine lv_iconst (v := 4) hx hb d_Mo_frame_54 (by decide) ?_
                obtain ⟨wmn_55, wmf_55, hc55, hf⟩ := bd2_some hf
                refine s_Vv (As := [.long (407708164 : Int64), .int (4 : Int32)]) (rest := []) (wr := [(wi, .inl (cI, 8000, .inl wif)), (wo, .inl (cI, 8000, .inl wof)), (wh, .inl (cI, 8000, .inl whf)), (wd, .inl (cI, 16000, .inl wdf)), (wp, .inl (cI, 9000, .inl wpf)), (wl, .inl (cJ, 4, .inr (.inl wlf)))]) (ws' := wd_Mo_frame w wi wo wh wd wm wp wl wb wc cB cI cJ win won whn wpl wdn wfo wmn_55 wpn wbn wcn wat wnu wif wof whf wdf wmf_55 wpf wlf) C.call (c_Mo_makeNumber l dC dI cB cI cJ w wm wi wo wh wd wp wb wc wl  win won whn wpl wdn wfo (0 : Int32) wpn wbn wcn wat wnu wmf (407708164 : Int64) (4 : Int32) hc55) (cwV 2 hts (gd_V w_437 w_438 w_439 w_357 w_440) rfl rfl rfl ⟨rfl, hd_Mo_makeNumber⟩ ⟨Nat.le_of_ble_eq_true rfl, Nat.le_of_ble_eq_true rfl⟩) rfl hl.1 rfl (Nat.le_of_ble_eq_true rfl) d_Mo_frame_55 ⟨Nat.le_of_ble_eq_true rfl, Nat.le_of_ble_eq_true rfl⟩ hZ hK hP hD hS hA 7 0 rfl rfl [0, 5] [1, 2, 3, 4, 6, 7] [6, 0, 1, 2, 3, 7, 4, 5] rfl rfl rfl rfl (by decide) rfl rfl (fun H locs hP hD hS => ?_)
                refine lv_aload_n hx hb d_Mo_frame_58 rfl (lv_at hl 0 rfl) ?_
                refine lv_iload_n hx hb d_Mo_frame_59 rfl (lv_at hl 1 rfl) ?_
                obtain ⟨wmn_60, wmf_60, hc60, hf⟩ := bd2_some hf
                refine s_Vv (As := [.int x1]) (rest := []) (wr := [(wi, .inl (cI, 8000, .inl wif)), (wo, .inl (cI, 8000, .inl wof)), (wh, .inl (cI, 8000, .inl whf)), (wd, .inl (cI, 16000, .inl wdf)), (wp, .inl (cI, 9000, .inl wpf)), (wl, .inl (cJ, 4, .inr (.inl wlf)))]) (ws' := wd_Mo_frame w wi wo wh wd wm wp wl wb wc cB cI cJ win won whn wpl wdn wfo wmn_60 wpn wbn wcn wat wnu wif wof whf wdf wmf_60 wpf wlf) C.call (c_Mo_make l dC dI cB cI cJ w wm wi wo wh wd wp wb wc wl  win won whn wpl wdn wfo wmn_55 wpn wbn wcn wat wnu wmf_55 x1 hc60) (cwV 1 hts (gd_V w_413 w_414 w_415 w_357 w_416) rfl rfl rfl ⟨rfl, hd_Mo_make⟩ ⟨Nat.le_of_ble_eq_true rfl, Nat.le_of_ble_eq_true rfl⟩) rfl hl.1 rfl (Nat.le_of_ble_eq_true rfl) d_Mo_frame_60 ⟨Nat.le_of_ble_eq_true rfl, Nat.le_of_ble_eq_true rfl⟩ hZ hK hP hD hS hA 7 0 rfl rfl [0, 5] [1, 2, 3, 4, 6, 7] [6, 0, 1, 2, 3, 7, 4, 5] rfl rfl rfl rfl (by decide) rfl rfl (fun H locs hP hD hS => ?_)
                refine lv_aload_n hx hb d_Mo_frame_63 rfl (lv_at hl 0 rfl) ?_
                refine lv_bipush (v := 16) hx hb d_Mo_frame_64 (by decide) ?_
                refine lv_iload_n hx hb d_Mo_frame_66 rfl (lv_at hl 2 rfl) ?_
                refine lv_imul hx hb d_Mo_frame_67 ?_
                obtain ⟨wmn_68, wmf_68, hc68, hf⟩ := bd2_some hf
                refine s_Vv (As := [.int ((16 : Int32) * x2)]) (rest := []) (wr := [(wi, .inl (cI, 8000, .inl wif)), (wo, .inl (cI, 8000, .inl wof)), (wh, .inl (cI, 8000, .inl whf)), (wd, .inl (cI, 16000, .inl wdf)), (wp, .inl (cI, 9000, .inl wpf)), (wl, .inl (cJ, 4, .inr (.inl wlf)))]) (ws' := wd_Mo_frame w wi wo wh wd wm wp wl wb wc cB cI cJ win won whn wpl wdn wfo wmn_68 wpn wbn wcn wat wnu wif wof whf wdf wmf_68 wpf wlf) C.call (c_Mo_make l dC dI cB cI cJ w wm wi wo wh wd wp wb wc wl  win won whn wpl wdn wfo wmn_60 wpn wbn wcn wat wnu wmf_60 ((16 : Int32) * x2) hc68) (cwV 1 hts (gd_V w_413 w_414 w_415 w_357 w_416) rfl rfl rfl ⟨rfl, hd_Mo_make⟩ ⟨Nat.le_of_ble_eq_true rfl, Nat.le_of_ble_eq_true rfl⟩) rfl hl.1 rfl (Nat.le_of_ble_eq_true rfl) d_Mo_frame_68 ⟨Nat.le_of_ble_eq_true rfl, Nat.le_of_ble_eq_true rfl⟩ hZ hK hP hD hS hA 7 0 rfl rfl [0, 5] [1, 2, 3, 4, 6, 7] [6, 0, 1, 2, 3, 7, 4, 5] rfl rfl rfl rfl (by decide) rfl rfl (fun H locs hP hD hS => ?_)
                refine lv_iload_n hx hb d_Mo_frame_71 rfl (lv_at hl 1 rfl) ?_
                refine lv_bipush (v := 8) hx hb d_Mo_frame_72 (by decide) ?_
                refine lv_iand hx hb d_Mo_frame_74 ?_
                refine lv_if_eq (tgt := 89) hx hb d_Mo_frame_75 (by decide) (fun c_75 => ?_) (fun c_75 => ?_)
                · have hf := br_pos c_75 hf
                  exact k_Mo_frame_89 C hK hA x1 x3 x4 x5 win won whn wpl wdn wfo wmn_68 wpn wbn wcn wat wnu wif wof whf wdf wmf_68 wpf wlf  hf hP hD hS (lv_sub hl [0, 1, 3, 4, 5] rfl)
                · have hf := br_neg c_75 hf
                  refine lv_aload_n hx hb d_Mo_frame_78 rfl (lv_at hl 0 rfl) ?_
                  refine lv_aload_n hx hb d_Mo_frame_79 rfl (lv_at hl 0 rfl) ?_
                  refine va_get (D := (dC, dI)) (ci := 7) (v := .int win) (C := R_Mo) (T := T_Mo) (N := 21) hx hb hts w_351 hown hK hP 0 rfl rfl 3 (by decide) (hts _ w_362) (fun _ h9 => h9) rfl d_Mo_frame_80 ?_
                  refine lv_i2l (v := (win.toInt64)) hx hb d_Mo_frame_83 rfl ?_
                  refine lv_bipush (v := 8) hx hb d_Mo_frame_84 (by decide) ?_
                  obtain ⟨wmn_86, wmf_86, hc86, hf⟩ := bd2_some hf
                  refine s_Vv (As := [.long (win.toInt64), .int (8 : Int32)]) (rest := []) (wr := [(wi, .inl (cI, 8000, .inl wif)), (wo, .inl (cI, 8000, .inl wof)), (wh, .inl (cI, 8000, .inl whf)), (wd, .inl (cI, 16000, .inl wdf)), (wp, .inl (cI, 9000, .inl wpf)), (wl, .inl (cJ, 4, .inr (.inl wlf)))]) (ws' := wd_Mo_frame w wi wo wh wd wm wp wl wb wc cB cI cJ win won whn wpl wdn wfo wmn_86 wpn wbn wcn wat wnu wif wof whf wdf wmf_86 wpf wlf) C.call (c_Mo_makeNumber l dC dI cB cI cJ w wm wi wo wh wd wp wb wc wl  win won whn wpl wdn wfo wmn_68 wpn wbn wcn wat wnu wmf_68 (win.toInt64) (8 : Int32) hc86) (cwV 2 hts (gd_V w_437 w_438 w_439 w_357 w_440) rfl rfl rfl ⟨rfl, hd_Mo_makeNumber⟩ ⟨Nat.le_of_ble_eq_true rfl, Nat.le_of_ble_eq_true rfl⟩) rfl hl.1 rfl (Nat.le_of_ble_eq_true rfl) d_Mo_frame_86 ⟨Nat.le_of_ble_eq_true rfl, Nat.le_of_ble_eq_true rfl⟩ hZ hK hP hD hS hA 7 0 rfl rfl [0, 5] [1, 2, 3, 4, 6, 7] [6, 0, 1, 2, 3, 7, 4, 5] rfl rfl rfl rfl (by decide) rfl rfl (fun H locs hP hD hS => ?_)
                  exact k_Mo_frame_89 C hK hA x1 x3 x4 x5 win won whn wpl wdn wfo wmn_86 wpn wbn wcn wat wnu wif wof whf wdf wmf_86 wpf wlf  hf hP hD hS (lv_sub hl [0, 1, 3, 4, 5] rfl)
              · have hf := br_neg c_40 hf
                refine lv_iconst (v := -1) hx hb d_Mo_frame_43 (by decide) ?_
                cases hf
                exact s_iret hx hb hr hlocks hP hK hD hS d_Mo_frame_44
end
noncomputable abbrev f_Mo_frame (N : Nat) (x1 : Int32) (x2 : Int32) (x3 : Int32) (x4 : Int32) (x5 : Int32) (win : Int32) (won : Int32) (whn : Int32) (wdn : Int32) (wfo : Int32) (wmn : Int32) (wpn : Int32) (wif : Nat → Int32) (wof : Nat → Int32) (whf : Nat → Int32) (wdf : Nat → Int32) (wmf : Nat → Int32) (wpf : Nat → Int32) (wlf : Nat → Int64) : Option (Int32 × Int32 × Int32 × Int32 × Int32 × Int32 × (Nat → Int32) × (Nat → Int32) × (Nat → Int32) × (Nat → Int32) × (Nat → Int64)) := j_Mo_frame_0 N x1 x2 x3 x4 x5 win won whn wdn wfo wmn wpn wif wof whf wdf wmf wpf wlf
set_option maxRecDepth 100000 in
theorem c_Mo_frame {N : Nat} (l : Launch) (dC : Nat → ClassId) (dI : Nat → Nat → Nat) (cB cI cJ : ClassId) (w wi wo wh wd wm wp wl wb wc : Nat) (win : Int32) (won : Int32) (whn : Int32) (wpl : Int32) (wdn : Int32) (wfo : Int32) (wmn : Int32) (wpn : Int32) (wbn : Int32) (wcn : Int32) (wat : Int32) (wnu : Int32) (wif : Nat → Int32) (wof : Nat → Int32) (whf : Nat → Int32) (wdf : Nat → Int32) (wmf : Nat → Int32) (wpf : Nat → Int32) (wlf : Nat → Int64) (x1 : Int32) (x2 : Int32) (x3 : Int32) (x4 : Int32) (x5 : Int32) {r_z : Int32} {won_z : Int32} {wdn_z : Int32} {wfo_z : Int32} {wmn_z : Int32} {wpn_z : Int32} {wof_z : Nat → Int32} {wdf_z : Nat → Int32} {wmf_z : Nat → Int32} {wpf_z : Nat → Int32} {wlf_z : Nat → Int64} (hf : f_Mo_frame N x1 x2 x3 x4 x5 win won whn wdn wfo wmn wpn wif wof whf wdf wmf wpf wlf = some (r_z, won_z, wdn_z, wfo_z, wmn_z, wpn_z, wof_z, wdf_z, wmf_z, wpf_z, wlf_z)) : MetI l y_Mo_frame ws_Mo_frame rm_Mo_frame (dC, dI) vwCl [(cB, .byte), (cI, .int), (cJ, .long)] [.ref w, .int x1, .int x2, .int x3, .int x4, .int x5] (wd_Mo_frame w wi wo wh wd wm wp wl wb wc cB cI cJ win won whn wpl wdn wfo wmn wpn wbn wcn wat wnu wif wof whf wdf wmf wpf wlf) r_z (wd_Mo_frame w wi wo wh wd wm wp wl wb wc cB cI cJ win won_z whn wpl wdn_z wfo_z wmn_z wpn_z wbn wcn wat wnu wif wof_z whf wdf_z wmf_z wpf_z wlf_z) 0 0 :=
  s_ofi (bytes := cd_Mo_frame) (maxL := 12) (ret := (some .int)) (by decide) rfl (Nat.le_of_ble_eq_true rfl) (fun p e s m below meth c A ls C hK hA hP hD hS hl => k_Mo_frame_0 C hK hA x1 x2 x3 x4 x5 win won whn wpl wdn wfo wmn wpn wbn wcn wat wnu wif wof whf wdf wmf wpf wlf hf hP hD hS (lv_sub hl [0, 1, 2, 3, 4, 5] rfl))
