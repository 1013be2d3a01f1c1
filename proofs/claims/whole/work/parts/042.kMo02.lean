abbrev wd_Mo_taken (w wd wi wo wh wm wp wb wc wl : Nat) (cB cI cJ : ClassId) (win : Int32) (won : Int32) (whn : Int32) (wpl : Int32) (wdn : Int32) (wfo : Int32) (wmn : Int32) (wpn : Int32) (wbn : Int32) (wcn : Int32) (wat : Int32) (wnu : Int32) (wdf : Nat → Int32) : va_W := [(w, .inr (7, [.ref wi, .ref wo, .ref wh, .int win, .int won, .int whn, .int wpl, .ref wd, .int wdn, .int wfo, .ref wm, .int wmn, .ref wp, .int wpn, .ref wb, .int wbn, .ref wc, .int wcn, .ref wl, .int wat, .int wnu])), (wd, .inl (cI, 16000, .inl wdf))]
abbrev rm_Mo_taken : Room := { frames := 2, cells := 0, slots := 0, locals := 51 }
section
variable {p : Program} {l : Launch} {e : Env} {s : State} {m : MethodId} {args : Array Value} {below : List Frame} {meth : Method} {c : Code} {dC : Nat → ClassId} {dI : Nat → Nat → Nat} {A : Nat → Prop} {cB cI cJ : ClassId} {H : Heap} {locs : List Loc} {ls : Array Slot} {N : Nat} {w wd wi wo wh wm wp wb wc wl : Nat}
noncomputable def j_Mo_taken_37 (N : Nat) (x1 : Int32) (t0 : Int32) (wdn : Int32) (wfo : Int32) (wdf : Nat → Int32)  : Option (Int32 × Int32) :=
  bd2 (f_Mo_match N x1 (2 : Int32) wdn wfo wdf) (fun r41 wfo_41 => (if t0 ≤ r41 then (some (r41, wfo_41) : Option (Int32 × Int32)) else (some ((0 : Int32), wfo_41) : Option (Int32 × Int32))))
set_option maxHeartbeats 4000000 in
set_option maxRecDepth 100000 in
theorem k_Mo_taken_37 {r_z : Int32} {wfo_z : Int32} (C : Fx p s m args meth c cd_Mo_taken 5 R_Mo lw_g (some .int)) (hK : va_K (dC, dI) vwCl [(cB, .byte), (cI, .int), (cJ, .long)] s) (hA : ∀ q, s.heap.size ≤ q → A q) (x1 : Int32) (t0 : Int32) (win : Int32) (won : Int32) (whn : Int32) (wpl : Int32) (wdn : Int32) (wfo : Int32) (wmn : Int32) (wpn : Int32) (wbn : Int32) (wcn : Int32) (wat : Int32) (wnu : Int32) (wdf : Nat → Int32)  (hf : j_Mo_taken_37 N x1 t0 wdn wfo wdf  = some (r_z, wfo_z)) (hP : va_P (dC, dI) vwCl (wd_Mo_taken w wd wi wo wh wm wp wb wc wl cB cI cJ win won whn wpl wdn wfo wmn wpn wbn wcn wat wnu wdf) H) (hD : va_D A (wd_Mo_taken w wd wi wo wh wm wp wb wc wl cB cI cJ win won whn wpl wdn wfo wmn wpn wbn wcn wat wnu wdf)) (hS : va_S A s.heap H locs) (hl : lv_has ls 5 [(0, .ref w), (1, .int x1)]) : W p l e rm_Mo_taken s m args below meth c H locs 0 0 (MQ below (sQi (dC, dI) vwCl [(cB, .byte), (cI, .int), (cJ, .long)] A r_z (wd_Mo_taken w wd wi wo wh wm wp wb wc wl cB cI cJ win won whn wpl wdn wfo_z wmn wpn wbn wcn wat wnu wdf)) args s 0 0 A) (F0 m 37 ls [.int t0]) := by
  obtain ⟨hx, hb, hml, hown, hts, hr, hlocks, hZ⟩ := id C
  unfold j_Mo_taken_37 at hf
  refine lv_istore_n (lv' := [(3, .int t0), (0, .ref w), (1, .int x1)]) hx hb d_Mo_taken_37 rfl hl (by decide) rfl (fun ls hl => ?_)
  refine lv_aload_n hx hb d_Mo_taken_38 rfl (lv_at hl 1 rfl) ?_
  refine lv_iload_n hx hb d_Mo_taken_39 rfl (lv_at hl 2 rfl) ?_
  refine lv_iconst (v := 2) hx hb d_Mo_taken_40 (by decide) ?_
  obtain ⟨r41, wfo_41, hc41, hf⟩ := bd2_some hf
  refine s_Vi (As := [.int x1, .int (2 : Int32)]) (rest := []) (wr := []) (ws' := wd_Mo_taken w wd wi wo wh wm wp wb wc wl cB cI cJ win won whn wpl wdn wfo_41 wmn wpn wbn wcn wat wnu wdf) C.call (c_Mo_match l dC dI cB cI cJ w wd wi wo wh wm wp wb wc wl  win won whn wpl wdn wfo wmn wpn wbn wcn wat wnu wdf x1 (2 : Int32) hc41) (cwV 2 hts (gd_V w_389 w_390 w_391 w_365 w_392) rfl rfl rfl ⟨rfl, hd_Mo_match⟩ ⟨Nat.le_of_ble_eq_true rfl, Nat.le_of_ble_eq_true rfl⟩) rfl hl.1 rfl (Nat.le_of_ble_eq_true rfl) d_Mo_taken_41 ⟨Nat.le_of_ble_eq_true rfl, Nat.le_of_ble_eq_true rfl⟩ hZ hK hP hD hS hA 7 0 rfl rfl [0, 1] [] [0, 1] rfl rfl rfl rfl (by decide) rfl rfl (fun H locs hP hD hS => ?_)
  refine lv_istore (lv' := [(4, .int r41), (3, .int t0), (0, .ref w), (1, .int x1)]) hx hb d_Mo_taken_44 hl (by decide) rfl (fun ls hl => ?_)
  refine lv_iload_n hx hb d_Mo_taken_46 rfl (lv_at hl 1 rfl) ?_
  refine lv_iload hx hb d_Mo_taken_47 (lv_at hl 0 rfl) ?_
  refine lv_icmp_le (tgt := 56) hx hb d_Mo_taken_49 (by decide) (fun c_49 => ?_) (fun c_49 => ?_)
  · have hf := br_pos c_49 hf
    refine lv_iload hx hb d_Mo_taken_56 (lv_at hl 0 rfl) ?_
    cases hf
    exact s_iret hx hb hr hlocks hP hK hD hS d_Mo_taken_58
  · have hf := br_neg c_49 hf
    refine lv_iconst (v := 0) hx hb d_Mo_taken_52 (by decide) ?_
    refine lv_goto (tgt := 58) hx hb d_Mo_taken_53 (by decide) ?_
    cases hf
    exact s_iret hx hb hr hlocks hP hK hD hS d_Mo_taken_58
noncomputable def j_Mo_taken_0 (N : Nat) (x1 : Int32) (x2 : Int32) (wdn : Int32) (wfo : Int32) (wdf : Nat → Int32)  : Option (Int32 × Int32) :=
  (if (3 : Int32) ≤ x2 then (if (wdn - (12 : Int32)) < (x1 + (1 : Int32)) then (j_Mo_taken_37 N x1 (0 : Int32) wdn wfo wdf ) else bd2 (f_Mo_match N (x1 + (1 : Int32)) (2 : Int32) wdn wfo wdf) (fun r30 wfo_30 => (j_Mo_taken_37 N x1 r30 wdn wfo_30 wdf ))) else bd2 (f_Mo_match N x1 x2 wdn wfo wdf) (fun r8 wfo_8 => (some (r8, wfo_8) : Option (Int32 × Int32))))
set_option maxHeartbeats 4000000 in
set_option maxRecDepth 100000 in
theorem k_Mo_taken_0 {r_z : Int32} {wfo_z : Int32} (C : Fx p s m args meth c cd_Mo_taken 5 R_Mo lw_g (some .int)) (hK : va_K (dC, dI) vwCl [(cB, .byte), (cI, .int), (cJ, .long)] s) (hA : ∀ q, s.heap.size ≤ q → A q) (x1 : Int32) (x2 : Int32) (win : Int32) (won : Int32) (whn : Int32) (wpl : Int32) (wdn : Int32) (wfo : Int32) (wmn : Int32) (wpn : Int32) (wbn : Int32) (wcn : Int32) (wat : Int32) (wnu : Int32) (wdf : Nat → Int32)  (hf : j_Mo_taken_0 N x1 x2 wdn wfo wdf  = some (r_z, wfo_z)) (hP : va_P (dC, dI) vwCl (wd_Mo_taken w wd wi wo wh wm wp wb wc wl cB cI cJ win won whn wpl wdn wfo wmn wpn wbn wcn wat wnu wdf) H) (hD : va_D A (wd_Mo_taken w wd wi wo wh wm wp wb wc wl cB cI cJ win won whn wpl wdn wfo wmn wpn wbn wcn wat wnu wdf)) (hS : va_S A s.heap H locs) (hl : lv_has ls 5 [(0, .ref w), (1, .int x1), (2, .int x2)]) : W p l e rm_Mo_taken s m args below meth c H locs 0 0 (MQ below (sQi (dC, dI) vwCl [(cB, .byte), (cI, .int), (cJ, .long)] A r_z (wd_Mo_taken w wd wi wo wh wm wp wb wc wl cB cI cJ win won whn wpl wdn wfo_z wmn wpn wbn wcn wat wnu wdf)) args s 0 0 A) (F0 m 0 ls []) := by
  obtain ⟨hx, hb, hml, hown, hts, hr, hlocks, hZ⟩ := id C
  unfold j_Mo_taken_0 at hf
  refine lv_iload_n hx hb d_Mo_taken_0 rfl (lv_at hl 2 rfl) ?_
  refine lv_iconst (v := 3) hx hb d_Mo_taken_1 (by decide) ?_
  refine lv_icmp_ge (tgt := 12) hx hb d_Mo_taken_2 (by decide) (fun c_2 => ?_) (fun c_2 => ?_)
  · have hf := br_pos c_2 hf
    refine lv_iload_n hx hb d_Mo_taken_12 rfl (lv_at hl 1 rfl) ?_
    refine lv_iconst (v := 1) hx hb d_Mo_taken_13 (by decide) ?_
    refine lv_iadd hx hb d_Mo_taken_14 ?_
    refine lv_aload_n hx hb d_Mo_taken_15 rfl (lv_at hl 0 rfl) ?_
    refine va_get (D := (dC, dI)) (ci := 7) (v := .int wdn) (C := R_Mo) (T := T_Mo) (N := 21) hx hb hts w_359 hown hK hP 0 rfl rfl 8 (by decide) (hts _ w_372) (fun _ h9 => h9) rfl d_Mo_taken_16 ?_
    refine lv_bipush (v := 12) hx hb d_Mo_taken_19 (by decide) ?_
    refine lv_isub hx hb d_Mo_taken_21 ?_
    refine lv_icmp_gt (tgt := 36) hx hb d_Mo_taken_22 (by decide) (fun c_22 => ?_) (fun c_22 => ?_)
    · have hf := br_pos c_22 hf
      refine lv_iconst (v := 0) hx hb d_Mo_taken_36 (by decide) ?_
      exact k_Mo_taken_37 C hK hA x1 (0 : Int32) win won whn wpl wdn wfo wmn wpn wbn wcn wat wnu wdf  hf hP hD hS (lv_sub hl [0, 1] rfl)
    · have hf := br_neg c_22 hf
      refine lv_aload_n hx hb d_Mo_taken_25 rfl (lv_at hl 0 rfl) ?_
      refine lv_iload_n hx hb d_Mo_taken_26 rfl (lv_at hl 1 rfl) ?_
      refine lv_iconst (v := 1) hx hb d_Mo_taken_27 (by decide) ?_
      refine lv_iadd hx hb d_Mo_taken_28 ?_
      refine lv_iconst (v := 2) hx hb d_Mo_taken_29 (by decide) ?_
      obtain ⟨r30, wfo_30, hc30, hf⟩ := bd2_some hf
      refine s_Vi (As := [.int (x1 + (1 : Int32)), .int (2 : Int32)]) (rest := []) (wr := []) (ws' := wd_Mo_taken w wd wi wo wh wm wp wb wc wl cB cI cJ win won whn wpl wdn wfo_30 wmn wpn wbn wcn wat wnu wdf) C.call (c_Mo_match l dC dI cB cI cJ w wd wi wo wh wm wp wb wc wl  win won whn wpl wdn wfo wmn wpn wbn wcn wat wnu wdf (x1 + (1 : Int32)) (2 : Int32) hc30) (cwV 2 hts (gd_V w_389 w_390 w_391 w_365 w_392) rfl rfl rfl ⟨rfl, hd_Mo_match⟩ ⟨Nat.le_of_ble_eq_true rfl, Nat.le_of_ble_eq_true rfl⟩) rfl hl.1 rfl (Nat.le_of_ble_eq_true rfl) d_Mo_taken_30 ⟨Nat.le_of_ble_eq_true rfl, Nat.le_of_ble_eq_true rfl⟩ hZ hK hP hD hS hA 7 0 rfl rfl [0, 1] [] [0, 1] rfl rfl rfl rfl (by decide) rfl rfl (fun H locs hP hD hS => ?_)
      refine lv_goto (tgt := 37) hx hb d_Mo_taken_33 (by decide) ?_
      exact k_Mo_taken_37 C hK hA x1 r30 win won whn wpl wdn wfo_30 wmn wpn wbn wcn wat wnu wdf  hf hP hD hS (lv_sub hl [0, 1] rfl)
  · have hf := br_neg c_2 hf
    refine lv_aload_n hx hb d_Mo_taken_5 rfl (lv_at hl 0 rfl) ?_
    refine lv_iload_n hx hb d_Mo_taken_6 rfl (lv_at hl 1 rfl) ?_
    refine lv_iload_n hx hb d_Mo_taken_7 rfl (lv_at hl 2 rfl) ?_
    obtain ⟨r8, wfo_8, hc8, hf⟩ := bd2_some hf
    refine s_Vi (As := [.int x1, .int x2]) (rest := []) (wr := []) (ws' := wd_Mo_taken w wd wi wo wh wm wp wb wc wl cB cI cJ win won whn wpl wdn wfo_8 wmn wpn wbn wcn wat wnu wdf) C.call (c_Mo_match l dC dI cB cI cJ w wd wi wo wh wm wp wb wc wl  win won whn wpl wdn wfo wmn wpn wbn wcn wat wnu wdf x1 x2 hc8) (cwV 2 hts (gd_V w_389 w_390 w_391 w_365 w_392) rfl rfl rfl ⟨rfl, hd_Mo_match⟩ ⟨Nat.le_of_ble_eq_true rfl, Nat.le_of_ble_eq_true rfl⟩) rfl hl.1 rfl (Nat.le_of_ble_eq_true rfl) d_Mo_taken_8 ⟨Nat.le_of_ble_eq_true rfl, Nat.le_of_ble_eq_true rfl⟩ hZ hK hP hD hS hA 7 0 rfl rfl [0, 1] [] [0, 1] rfl rfl rfl rfl (by decide) rfl rfl (fun H locs hP hD hS => ?_)
    cases hf
    exact s_iret hx hb hr hlocks hP hK hD hS d_Mo_taken_11
end
noncomputable abbrev f_Mo_taken (N : Nat) (x1 : Int32) (x2 : Int32) (wdn : Int32) (wfo : Int32) (wdf : Nat → Int32) : Option (Int32 × Int32) := j_Mo_taken_0 N x1 x2 wdn wfo wdf
set_option maxRecDepth 100000 in
theorem c_Mo_taken {N : Nat} (l : Launch) (dC : Nat → ClassId) (dI : Nat → Nat → Nat) (cB cI cJ : ClassId) (w wd wi wo wh wm wp wb wc wl : Nat) (win : Int32) (won : Int32) (whn : Int32) (wpl : Int32) (wdn : Int32) (wfo : Int32) (wmn : Int32) (wpn : Int32) (wbn : Int32) (wcn : Int32) (wat : Int32) (wnu : Int32) (wdf : Nat → Int32) (x1 : Int32) (x2 : Int32) {r_z : Int32} {wfo_z : Int32} (hf : f_Mo_taken N x1 x2 wdn wfo wdf = some (r_z, wfo_z)) : MetI l y_Mo_taken ws_Mo_taken rm_Mo_taken (dC, dI) vwCl [(cB, .byte), (cI, .int), (cJ, .long)] [.ref w, .int x1, .int x2] (wd_Mo_taken w wd wi wo wh wm wp wb wc wl cB cI cJ win won whn wpl wdn wfo wmn wpn wbn wcn wat wnu wdf) r_z (wd_Mo_taken w wd wi wo wh wm wp wb wc wl cB cI cJ win won whn wpl wdn wfo_z wmn wpn wbn wcn wat wnu wdf) 0 0 :=
  s_ofi (bytes := cd_Mo_taken) (maxL := 5) (ret := (some .int)) (by decide) rfl (Nat.le_of_ble_eq_true rfl) (fun p e s m below meth c A ls C hK hA hP hD hS hl => k_Mo_taken_0 C hK hA x1 x2 win won whn wpl wdn wfo wmn wpn wbn wcn wat wnu wdf hf hP hD hS (lv_sub hl [0, 1, 2] rfl))

abbrev wd_Mo_writeBlock (w wd wp wi wo wh wm wb wc wl : Nat) (cB cI cJ : ClassId) (win : Int32) (won : Int32) (whn : Int32) (wpl : Int32) (wdn : Int32) (wfo : Int32) (wmn : Int32) (wpn : Int32) (wbn : Int32) (wcn : Int32) (wat : Int32) (wnu : Int32) (wdf : Nat → Int32) (wpf : Nat → Int32) : va_W := [(w, .inr (7, [.ref wi, .ref wo, .ref wh, .int win, .int won, .int whn, .int wpl, .ref wd, .int wdn, .int wfo, .ref wm, .int wmn, .ref wp, .int wpn, .ref wb, .int wbn, .ref wc, .int wcn, .ref wl, .int wat, .int wnu])), (wd, .inl (cI, 16000, .inl wdf)), (wp, .inl (cI, 9000, .inl wpf))]
abbrev rm_Mo_writeBlock : Room := { frames := 3, cells := 0, slots := 0, locals := 75 }
section
variable {p : Program} {l : Launch} {e : Env} {s : State} {m : MethodId} {args : Array Value} {below : List Frame} {meth : Method} {c : Code} {dC : Nat → ClassId} {dI : Nat → Nat → Nat} {A : Nat → Prop} {cB cI cJ : ClassId} {H : Heap} {locs : List Loc} {ls : Array Slot} {N : Nat} {w wd wp wi wo wh wm wb wc wl : Nat}
noncomputable def b_Mo_writeBlock_10 (N : Nat) (x2 : Int32) (wdn : Int32) (wdf : Nat → Int32)  (kh10 : Int32 → Int32 → Int32 → Int32 → (Nat → Int32) → Option (Int32 × Int32 × (Nat → Int32))) (x3 : Int32) (x4 : Int32) (wfo : Int32) (wpn : Int32) (wpf : Nat → Int32) : Option (Int32 × Int32 × (Nat → Int32)) :=
  (if wdn ≤ x4 then bd2 (f_Mo_sequence N x3 wdn (0 : Int32) (0 : Int32) wpn wdf wpf) (fun wpn_76 wpf_76 => (some (wfo, wpn_76, wpf_76) : Option (Int32 × Int32 × (Nat → Int32)))) else bd2 (f_Mo_taken N x4 x2 wdn wfo wdf) (fun r23 wfo_23 => (if r23 = 0 then (kh10 x3 (x4 + 1) wfo_23 wpn wpf) else bd2 (f_Mo_sequence N x3 x4 r23 (x4 - wfo_23) wpn wdf wpf) (fun wpn_52 wpf_52 => (kh10 (x4 + r23) (x4 + r23) wfo_23 wpn_52 wpf_52)))))
set_option maxHeartbeats 4000000 in
set_option maxRecDepth 100000 in
theorem k_Mo_writeBlock_10 {wfo_z : Int32} {wpn_z : Int32} {wpf_z : Nat → Int32} (C : Fx p s m args meth c cd_Mo_writeBlock 6 R_Mo lw_g none) (hK : va_K (dC, dI) vwCl [(cB, .byte), (cI, .int), (cJ, .long)] s) (hA : ∀ q, s.heap.size ≤ q → A q) (x2 : Int32) (win : Int32) (won : Int32) (whn : Int32) (wpl : Int32) (wdn : Int32) (wmn : Int32) (wbn : Int32) (wcn : Int32) (wat : Int32) (wnu : Int32) (wdf : Nat → Int32)  : ∀ (n : Nat) (x3 : Int32) (x4 : Int32) (wfo : Int32) (wpn : Int32) (wpf : Nat → Int32), loop5 (b_Mo_writeBlock_10 N x2 wdn wdf ) n x3 x4 wfo wpn wpf = some (wfo_z, wpn_z, wpf_z) → ∀ (H : Heap) (locs : List Loc), va_P (dC, dI) vwCl (wd_Mo_writeBlock w wd wp wi wo wh wm wb wc wl cB cI cJ win won whn wpl wdn wfo wmn wpn wbn wcn wat wnu wdf wpf) H → va_D A (wd_Mo_writeBlock w wd wp wi wo wh wm wb wc wl cB cI cJ win won whn wpl wdn wfo wmn wpn wbn wcn wat wnu wdf wpf) → va_S A s.heap H locs → ∀ (ls : Array Slot), lv_has ls 6 [(0, .ref w), (2, .int x2), (3, .int x3), (4, .int x4)] → W p l e rm_Mo_writeBlock s m args below meth c H locs 0 0 (MQ below (sQv (dC, dI) vwCl [(cB, .byte), (cI, .int), (cJ, .long)] A (wd_Mo_writeBlock w wd wp wi wo wh wm wb wc wl cB cI cJ win won whn wpl wdn wfo_z wmn wpn_z wbn wcn wat wnu wdf wpf_z)) args s 0 0 A) (F0 m 10 ls []) := by
  obtain ⟨hx, hb, hml, hown, hts, hr, hlocks, hZ⟩ := id C
  intro n
  induction n with
  | zero => intro x3 x4 wfo wpn wpf hf; cases hf
  | succ n ih10 =>
    intro x3 x4 wfo wpn wpf hf H locs hP hD hS ls hl
    have hf : b_Mo_writeBlock_10 N x2 wdn wdf  (loop5 (b_Mo_writeBlock_10 N x2 wdn wdf ) n) x3 x4 wfo wpn wpf = some (wfo_z, wpn_z, wpf_z) := hf
    generalize loop5 (b_Mo_writeBlock_10 N x2 wdn wdf ) n = kh10 at hf ih10
    unfold b_Mo_writeBlock_10 at hf
    refine lv_iload hx hb d_Mo_writeBlock_10 (lv_at hl 3 rfl) ?_
    refine lv_aload_n hx hb d_Mo_writeBlock_12 rfl (lv_at hl 0 rfl) ?_
    refine va_get (D := (dC, dI)) (ci := 7) (v := .int wdn) (C := R_Mo) (T := T_Mo) (N := 21) hx hb hts w_359 hown hK hP 0 rfl rfl 8 (by decide) (hts _ w_372) (fun _ h9 => h9) rfl d_Mo_writeBlock_13 ?_
    refine lv_icmp_ge (tgt := 68) hx hb d_Mo_writeBlock_16 (by decide) (fun c_16 => ?_) (fun c_16 => ?_)
    · have hf := br_pos c_16 hf
      refine lv_aload_n hx hb d_Mo_writeBlock_68 rfl (lv_at hl 0 rfl) ?_
      refine lv_iload_n hx hb d_Mo_writeBlock_69 rfl (lv_at hl 2 rfl) ?_
      refine lv_aload_n hx hb d_Mo_writeBlock_70 rfl (lv_at hl 0 rfl) ?_
      refine va_get (D := (dC, dI)) (ci := 7) (v := .int wdn) (C := R_Mo) (T := T_Mo) (N := 21) hx hb hts w_359 hown hK hP 0 rfl rfl 8 (by decide) (hts _ w_372) (fun _ h9 => h9) rfl d_Mo_writeBlock_71 ?_
      refine lv_iconst (v := 0) hx hb d_Mo_writeBlock_74 (by decide) ?_
      refine lv_iconst (v := 0) hx hb d_Mo_writeBlock_75 (by decide) ?_
      obtain ⟨wpn_76, wpf_76, hc76, hf⟩ := bd2_some hf
      refine s_Vv (As := [.int x3, .int wdn, .int (0 : Int32), .int (0 : Int32)]) (rest := []) (wr := []) (ws' := wd_Mo_writeBlock w wd wp wi wo wh wm wb wc wl cB cI cJ win won whn wpl wdn wfo wmn wpn_76 wbn wcn wat wnu wdf wpf_76) C.call (c_Mo_sequence l dC dI cB cI cJ w wd wp wi wo wh wm wb wc wl  win won whn wpl wdn wfo wmn wpn wbn wcn wat wnu wdf wpf x3 wdn (0 : Int32) (0 : Int32) hc76) (cwV 4 hts (gd_V w_393 w_394 w_395 w_365 w_396) rfl rfl rfl ⟨rfl, hd_Mo_sequence⟩ ⟨Nat.le_of_ble_eq_true rfl, Nat.le_of_ble_eq_true rfl⟩) rfl hl.1 rfl (Nat.le_of_ble_eq_true rfl) d_Mo_writeBlock_76 ⟨Nat.le_of_ble_eq_true rfl, Nat.le_of_ble_eq_true rfl⟩ hZ hK hP hD hS hA 7 0 rfl rfl [0, 1, 2] [] [0, 1, 2] rfl rfl rfl rfl (by decide) rfl rfl (fun H locs hP hD hS => ?_)
      cases hf
      exact s_vret hx hb hr hlocks hP hK hD hS d_Mo_writeBlock_79
    · have hf := br_neg c_16 hf
      refine lv_aload_n hx hb d_Mo_writeBlock_19 rfl (lv_at hl 0 rfl) ?_
      refine lv_iload hx hb d_Mo_writeBlock_20 (lv_at hl 3 rfl) ?_
      refine lv_iload_n hx hb d_Mo_writeBlock_22 rfl (lv_at hl 1 rfl) ?_
      obtain ⟨r23, wfo_23, hc23, hf⟩ := bd2_some hf
      refine s_Vi (As := [.int x4, .int x2]) (rest := []) (wr := [(wp, .inl (cI, 9000, .inl wpf))]) (ws' := wd_Mo_writeBlock w wd wp wi wo wh wm wb wc wl cB cI cJ win won whn wpl wdn wfo_23 wmn wpn wbn wcn wat wnu wdf wpf) C.call (c_Mo_taken l dC dI cB cI cJ w wd wi wo wh wm wp wb wc wl  win won whn wpl wdn wfo wmn wpn wbn wcn wat wnu wdf x4 x2 hc23) (cwV 2 hts (gd_V w_397 w_398 w_399 w_365 w_400) rfl rfl rfl ⟨rfl, hd_Mo_taken⟩ ⟨Nat.le_of_ble_eq_true rfl, Nat.le_of_ble_eq_true rfl⟩) rfl hl.1 rfl (Nat.le_of_ble_eq_true rfl) d_Mo_writeBlock_23 ⟨Nat.le_of_ble_eq_true rfl, Nat.le_of_ble_eq_true rfl⟩ hZ hK hP hD hS hA 7 0 rfl rfl [0, 1] [2] [1, 2, 0] rfl rfl rfl rfl (by decide) rfl rfl (fun H locs hP hD hS => ?_)
      refine lv_istore (lv' := [(5, .int r23), (0, .ref w), (2, .int x2), (3, .int x3), (4, .int x4)]) hx hb d_Mo_writeBlock_26 hl (by decide) rfl (fun ls hl => ?_)
      refine lv_iload hx hb d_Mo_writeBlock_28 (lv_at hl 0 rfl) ?_
      refine lv_if_ne (tgt := 39) hx hb d_Mo_writeBlock_30 (by decide) (fun c_30 => ?_) (fun c_30 => ?_)
      · have hf := br_neg c_30 hf
        refine lv_aload_n hx hb d_Mo_writeBlock_39 rfl (lv_at hl 1 rfl) ?_
        refine lv_iload_n hx hb d_Mo_writeBlock_40 rfl (lv_at hl 3 rfl) ?_
        refine lv_iload hx hb d_Mo_writeBlock_41 (lv_at hl 4 rfl) ?_
        refine lv_iload hx hb d_Mo_writeBlock_43 (lv_at hl 0 rfl) ?_
        refine lv_iload hx hb d_Mo_writeBlock_45 (lv_at hl 4 rfl) ?_
        refine lv_aload_n hx hb d_Mo_writeBlock_47 rfl (lv_at hl 1 rfl) ?_
        refine va_get (D := (dC, dI)) (ci := 7) (v := .int wfo_23) (C := R_Mo) (T := T_Mo) (N := 21) hx hb hts w_359 hown hK hP 0 rfl rfl 9 (by decide) (hts _ w_388) (fun _ h9 => h9) rfl d_Mo_writeBlock_48 ?_
        refine lv_isub hx hb d_Mo_writeBlock_51 ?_
        obtain ⟨wpn_52, wpf_52, hc52, hf⟩ := bd2_some hf
        refine s_Vv (As := [.int x3, .int x4, .int r23, .int (x4 - wfo_23)]) (rest := []) (wr := []) (ws' := wd_Mo_writeBlock w wd wp wi wo wh wm wb wc wl cB cI cJ win won whn wpl wdn wfo_23 wmn wpn_52 wbn wcn wat wnu wdf wpf_52) C.call (c_Mo_sequence l dC dI cB cI cJ w wd wp wi wo wh wm wb wc wl  win won whn wpl wdn wfo_23 wmn wpn wbn wcn wat wnu wdf wpf x3 x4 r23 (x4 - wfo_23) hc52) (cwV 4 hts (gd_V w_393 w_394 w_395 w_365 w_396) rfl rfl rfl ⟨rfl, hd_Mo_sequence⟩ ⟨Nat.le_of_ble_eq_true rfl, Nat.le_of_ble_eq_true rfl⟩) rfl hl.1 rfl (Nat.le_of_ble_eq_true rfl) d_Mo_writeBlock_52 ⟨Nat.le_of_ble_eq_true rfl, Nat.le_of_ble_eq_true rfl⟩ hZ hK hP hD hS hA 7 0 rfl rfl [0, 1, 2] [] [0, 1, 2] rfl rfl rfl rfl (by decide) rfl rfl (fun H locs hP hD hS => ?_)
        refine lv_iload hx hb d_Mo_writeBlock_55 (lv_at hl 4 rfl) ?_
        refine lv_iload hx hb d_Mo_writeBlock_57 (lv_at hl 0 rfl) ?_
        refine lv_iadd hx hb d_Mo_writeBlock_59 ?_
        refine lv_istore (lv' := [(4, .int (x4 + r23)), (5, .int r23), (0, .ref w), (2, .int x2), (3, .int x3)]) hx hb d_Mo_writeBlock_60 hl (by decide) rfl (fun ls hl => ?_)
        refine lv_iload hx hb d_Mo_writeBlock_62 (lv_at hl 0 rfl) ?_
        refine lv_istore_n (lv' := [(3, .int (x4 + r23)), (4, .int (x4 + r23)), (5, .int r23), (0, .ref w), (2, .int x2)]) hx hb d_Mo_writeBlock_64 rfl hl (by decide) rfl (fun ls hl => ?_)
        refine lv_goto (tgt := 10) hx hb d_Mo_writeBlock_65 (by decide) ?_
        exact ih10 (x4 + r23) (x4 + r23) wfo_23 wpn_52 wpf_52 hf _ _ hP hD hS _ (lv_sub hl [3, 4, 0, 1] rfl)
      · have hf := br_pos c_30 hf
        refine lv_iinc (v := (x4 + 1)) (lv' := [(4, .int (x4 + 1)), (5, .int r23), (0, .ref w), (2, .int x2), (3, .int x3)]) hx hb d_Mo_writeBlock_33 hl (k := 4) rfl (congrArg (fun z => x4 + z) (by decide)) (by decide) rfl (fun ls hl => ?_)
        refine lv_goto (tgt := 10) hx hb d_Mo_writeBlock_36 (by decide) ?_
        exact ih10 x3 (x4 + 1) wfo_23 wpn wpf hf _ _ hP hD hS _ (lv_sub hl [2, 3, 4, 0] rfl)
noncomputable def j_Mo_writeBlock_0 (N : Nat) (x1 : Int32) (x2 : Int32) (wdn : Int32) (wfo : Int32) (wdf : Nat → Int32) (wpf : Nat → Int32)  : Option (Int32 × Int32 × (Nat → Int32)) :=
  (loop5 (b_Mo_writeBlock_10 N x2 wdn wdf ) N x1 x1 wfo (0 : Int32) wpf)
set_option maxHeartbeats 4000000 in
set_option maxRecDepth 100000 in
theorem k_Mo_writeBlock_0 {wfo_z : Int32} {wpn_z : Int32} {wpf_z : Nat → Int32} (C : Fx p s m args meth c cd_Mo_writeBlock 6 R_Mo lw_g none) (hK : va_K (dC, dI) vwCl [(cB, .byte), (cI, .int), (cJ, .long)] s) (hA : ∀ q, s.heap.size ≤ q → A q) (x1 : Int32) (x2 : Int32) (win : Int32) (won : Int32) (whn : Int32) (wpl : Int32) (wdn : Int32) (wfo : Int32) (wmn : Int32) (wpn : Int32) (wbn : Int32) (wcn : Int32) (wat : Int32) (wnu : Int32) (wdf : Nat → Int32) (wpf : Nat → Int32)  (hf : j_Mo_writeBlock_0 N x1 x2 wdn wfo wdf wpf  = some (wfo_z, wpn_z, wpf_z)) (hP : va_P (dC, dI) vwCl (wd_Mo_writeBlock w wd wp wi wo wh wm wb wc wl cB cI cJ win won whn wpl wdn wfo wmn wpn wbn wcn wat wnu wdf wpf) H) (hD : va_D A (wd_Mo_writeBlock w wd wp wi wo wh wm wb wc wl cB cI cJ win won whn wpl wdn wfo wmn wpn wbn wcn wat wnu wdf wpf)) (hS : va_S A s.heap H locs) (hl : lv_has ls 6 [(0, .ref w), (1, .int x1), (2, .int x2)]) : W p l e rm_Mo_writeBlock s m args below meth c H locs 0 0 (MQ below (sQv (dC, dI) vwCl [(cB, .byte), (cI, .int), (cJ, .long)] A (wd_Mo_writeBlock w wd wp wi wo wh wm wb wc wl cB cI cJ win won whn wpl wdn wfo_z wmn wpn_z wbn wcn wat wnu wdf wpf_z)) args s 0 0 A) (F0 m 0 ls []) := by
  obtain ⟨hx, hb, hml, hown, hts, hr, hlocks, hZ⟩ := id C
  unfold j_Mo_writeBlock_0 at hf
  refine lv_aload_n hx hb d_Mo_writeBlock_0 rfl (lv_at hl 0 rfl) ?_
  refine lv_iconst (v := 0) hx hb d_Mo_writeBlock_1 (by decide) ?_
  refine va_put (D := (dC, dI)) (ci := 7) (v := .int (0 : Int32)) (ty := .int) (C := R_Mo) (T := T_Mo) (N := 21) hx hb hts w_359 ty_Mo ty_Mo_ok nm_Mo hown hK hP hD hS 0 rfl rfl 13 (by decide) (hts _ w_360) (fun _ h9 => h9) rfl (by decide +kernel) rfl rfl (Nat.le_of_ble_eq_true rfl) d_Mo_writeBlock_2 (fun H locs hP hD hS => ?_)
  have hP : va_P (dC, dI) vwCl (wd_Mo_writeBlock w wd wp wi wo wh wm wb wc wl cB cI cJ win won whn wpl wdn wfo wmn (0 : Int32) wbn wcn wat wnu wdf wpf) H := hP
  have hD : va_D A (wd_Mo_writeBlock w wd wp wi wo wh wm wb wc wl cB cI cJ win won whn wpl wdn wfo wmn (0 : Int32) wbn wcn wat wnu wdf wpf) := hD
  refine lv_iload_n hx hb d_Mo_writeBlock_5 rfl (lv_at hl 1 rfl) ?_
  refine lv_istore_n (lv' := [(3, .int x1), (0, .ref w), (1, .int x1), (2, .int x2)]) hx hb d_Mo_writeBlock_6 rfl hl (by decide) rfl (fun ls hl => ?_)
  refine lv_iload_n hx hb d_Mo_writeBlock_7 rfl (lv_at hl 2 rfl) ?_
  refine lv_istore (lv' := [(4, .int x1), (3, .int x1), (0, .ref w), (1, .int x1), (2, .int x2)]) hx hb d_Mo_writeBlock_8 hl (by decide) rfl (fun ls hl => ?_)
  exact k_Mo_writeBlock_10 C hK hA x2 win won whn wpl wdn wmn wbn wcn wat wnu wdf  N x1 x1 wfo (0 : Int32) wpf hf _ _ hP hD hS _ (lv_sub hl [2, 4, 1, 0] rfl)
end
noncomputable abbrev f_Mo_writeBlock (N : Nat) (x1 : Int32) (x2 : Int32) (wdn : Int32) (wfo : Int32) (wdf : Nat → Int32) (wpf : Nat → Int32) : Option (Int32 × Int32 × (Nat → Int32)) := j_Mo_writeBlock_0 N x1 x2 wdn wfo wdf wpf
set_option maxRecDepth 100000 in
theorem c_Mo_writeBlock {N : Nat} (l : Launch) (dC : Nat → ClassId) (dI : Nat → Nat → Nat) (cB cI cJ : ClassId) (w wd wp wi wo wh wm wb wc wl : Nat) (win : Int32) (won : Int32) (whn : Int32) (wpl : Int32) (wdn : Int32) (wfo : Int32) (wmn : Int32) (wpn : Int32) (wbn : Int32) (wcn : Int32) (wat : Int32) (wnu : Int32) (wdf : Nat → Int32) (wpf : Nat → Int32) (x1 : Int32) (x2 : Int32) {wfo_z : Int32} {wpn_z : Int32} {wpf_z : Nat → Int32} (hf : f_Mo_writeBlock N x1 x2 wdn wfo wdf wpf = some (wfo_z, wpn_z, wpf_z)) : MetV l y_Mo_writeBlock ws_Mo_writeBlock rm_Mo_writeBlock (dC, dI) vwCl [(cB, .byte), (cI, .int), (cJ, .long)] [.ref w, .int x1, .int x2] (wd_Mo_writeBlock w wd wp wi wo wh wm wb wc wl cB cI cJ win won whn wpl wdn wfo wmn wpn wbn wcn wat wnu wdf wpf)  (wd_Mo_writeBlock w wd wp wi wo wh wm wb wc wl cB cI cJ win won whn wpl wdn wfo_z wmn wpn_z wbn wcn wat wnu wdf wpf_z) 0 0 :=
  s_ofv (bytes := cd_Mo_writeBlock) (maxL := 6) (ret := none) (by decide) rfl (Nat.le_of_ble_eq_true rfl) (fun p e s m below meth c A ls C hK hA hP hD hS hl => k_Mo_writeBlock_0 C hK hA x1 x2 win won whn wpl wdn wfo wmn wpn wbn wcn wat wnu wdf wpf hf hP hD hS (lv_sub hl [0, 1, 2] rfl))

abbrev wd_Mo_block (w wi wo wh wd wp wm wb wc wl : Nat) (cB cI cJ : ClassId) (win : Int32) (won : Int32) (whn : Int32) (wpl : Int32) (wdn : Int32) (wfo : Int32) (wmn : Int32) (wpn : Int32) (wbn : Int32) (wcn : Int32) (wat : Int32) (wnu : Int32) (wif : Nat → Int32) (wof : Nat → Int32) (whf : Nat → Int32) (wdf : Nat → Int32) (wpf : Nat → Int32) : va_W := [(w, .inr (7, [.ref wi, .ref wo, .ref wh, .int win, .int won, .int whn, .int wpl, .ref wd, .int wdn, .int wfo, .ref wm, .int wmn, .ref wp, .int wpn, .ref wb, .int wbn, .ref wc, .int wcn, .ref wl, .int wat, .int wnu])), (wi, .inl (cI, 8000, .inl wif)), (wo, .inl (cI, 8000, .inl wof)), (wh, .inl (cI, 8000, .inl whf)), (wd, .inl (cI, 16000, .inl wdf)), (wp, .inl (cI, 9000, .inl wpf))]
abbrev rm_Mo_block : Room := { frames := 4, cells := 0, slots := 0, locals := 100 }
section
variable {p : Program} {l : Launch} {e : Env} {s : State} {m : MethodId} {args : Array Value} {below : List Frame} {meth : Method} {c : Code} {dC : Nat → ClassId} {dI : Nat → Nat → Nat} {A : Nat → Prop} {cB cI cJ : ClassId} {H : Heap} {locs : List Loc} {ls : Array Slot} {N : Nat} {w wi wo wh wd wp wm wb wc wl : Nat}
noncomputable def j_Mo_block_0 (N : Nat) (x1 : Int32) (win : Int32) (won : Int32) (whn : Int32) (wdn : Int32) (wfo : Int32) (wpn : Int32) (wif : Nat → Int32) (wof : Nat → Int32) (whf : Nat → Int32) (wdf : Nat → Int32) (wpf : Nat → Int32)  : Option (Int32 × Int32 × Int32 × Int32 × Int32 × (Nat → Int32) × (Nat → Int32) × (Nat → Int32)) :=
  (if x1 < 0 then (some ((-1 : Int32), won, wdn, wfo, wpn, wof, wdf, wpf) : Option (Int32 × Int32 × Int32 × Int32 × Int32 × (Nat → Int32) × (Nat → Int32) × (Nat → Int32))) else (if x1 ≤ (3 : Int32) then bd2 (f_Mo_begin N whn whf wdf) (fun wdn_12 wdf_12 => bd2 (f_Mo_append N (0 : Int32) win wdn_12 wif wdf_12) (fun wdn_21 wdf_21 => bd3 (f_Mo_writeBlock N whn x1 wdn_21 wfo wdf_21 wpf) (fun wfo_30 wpn_30 wpf_30 => bd3 (f_Mo_show N 9000 wpn_30 won wof wpf_30) (fun r42 won_42 wof_42 => (some (r42, won_42, wdn_21, wfo_30, wpn_30, wof_42, wdf_21, wpf_30) : Option (Int32 × Int32 × Int32 × Int32 × Int32 × (Nat → Int32) × (Nat → Int32) × (Nat → Int32))))))) else (some ((-1 : Int32), won, wdn, wfo, wpn, wof, wdf, wpf) : Option (Int32 × Int32 × Int32 × Int32 × Int32 × (Nat → Int32) × (Nat → Int32) × (Nat → Int32)))))
set_option maxHeartbeats 4000000 in
set_option maxRecDepth 100000 in
theorem k_Mo_block_0 {r_z : Int32} {won_z : Int32} {wdn_z : Int32} {wfo_z : Int32} {wpn_z : Int32} {wof_z : Nat → Int32} {wdf_z : Nat → Int32} {wpf_z : Nat → Int32} (C : Fx p s m args meth c cd_Mo_block 2 R_Mo lw_g (some .int)) (hK : va_K (dC, dI) vwCl [(cB, .byte), (cI, .int), (cJ, .long)] s) (hA : ∀ q, s.heap.size ≤ q → A q) (x1 : Int32) (win : Int32) (won : Int32) (whn : Int32) (wpl : Int32) (wdn : Int32) (wfo : Int32) (wmn : Int32) (wpn : Int32) (wbn : Int32) (wcn : Int32) (wat : Int32) (wnu : Int32) (wif : Nat → Int32) (wof : Nat → Int32) (whf : Nat → Int32) (wdf : Nat → Int32) (wpf : Nat → Int32)  (hf : j_Mo_block_0 N x1 win won whn wdn wfo wpn wif wof whf wdf wpf  = some (r_z, won_z, wdn_z, wfo_z, wpn_z, wof_z, wdf_z, wpf_z)) (hP : va_P (dC, dI) vwCl (wd_Mo_block w wi wo wh wd wp wm wb wc wl cB cI cJ win won whn wpl wdn wfo wmn wpn wbn wcn wat wnu wif wof whf wdf wpf) H) (hD : va_D A (wd_Mo_block w wi wo wh wd wp wm wb wc wl cB cI cJ win won whn wpl wdn wfo wmn wpn wbn wcn wat wnu wif wof whf wdf wpf)) (hS : va_S A s.heap H locs) (hl : lv_has ls 2 [(0, .ref w), (1, .int x1)]) : W p l e rm_Mo_block s m args below meth c H locs 0 0 (MQ below (sQi (dC, dI) vwCl [(cB, .byte), (cI, .int), (cJ, .long)] A r_z (wd_Mo_block w wi wo wh wd wp wm wb wc wl cB cI cJ win won_z whn wpl wdn_z wfo_z wmn wpn_z wbn wcn wat wnu wif wof_z whf wdf_z wpf_z)) args s 0 0 A) (F0 m 0 ls []) := by
  obtain ⟨hx, hb, hml, hown, hts, hr, hlocks, hZ⟩ := id C
  unfold j_Mo_block_0 at hf
  refine lv_iload_n hx hb d_Mo_block_0 rfl (lv_at hl 1 rfl) ?_
  refine lv_if_lt (tgt := 9) hx hb d_Mo_block_1 (by decide) (fun c_1 => ?_) (fun c_1 => ?_)
  · have hf := br_pos c_1 hf
    refine lv_iconst (v := -1) hx hb d_Mo_block_9 (by decide) ?_
    cases hf
    exact s_iret hx hb hr hlocks hP hK hD hS d_Mo_block_10
  · have hf := br_neg c_1 hf
    refine lv_iload_n hx hb d_Mo_block_4 rfl (lv_at hl 1 rfl) ?_
    refine lv_iconst (v := 3) hx hb d_Mo_block_5 (by decide) ?_
    refine lv_icmp_le (tgt := 11) hx hb d_Mo_block_6 (by decide) (fun c_6 => ?_) (fun c_6 => ?_)
    · have hf := br_pos c_6 hf
      refine lv_aload_n hx hb d_Mo_block_11 rfl (lv_at hl 0 rfl) ?_
      obtain ⟨wdn_12, wdf_12, hc12, hf⟩ := bd2_some hf
      refine s_Vv (As := []) (rest := []) (wr := [(wi, .inl (cI, 8000, .inl wif)), (wo, .inl (cI, 8000, .inl wof)), (wp, .inl (cI, 9000, .inl wpf))]) (ws' := wd_Mo_block w wi wo wh wd wp wm wb wc wl cB cI cJ win won whn wpl wdn_12 wfo wmn wpn wbn wcn wat wnu wif wof whf wdf_12 wpf) C.call (c_Mo_begin l dC dI cB cI cJ w wh wd wi wo wm wp wb wc wl  win won whn wpl wdn wfo wmn wpn wbn wcn wat wnu whf wdf  hc12) (cwV 0 hts (gd_V w_401 w_402 w_403 w_365 w_404) rfl rfl rfl ⟨rfl, hd_Mo_begin⟩ ⟨Nat.le_of_ble_eq_true rfl, Nat.le_of_ble_eq_true rfl⟩) rfl hl.1 rfl (Nat.le_of_ble_eq_true rfl) d_Mo_block_12 ⟨Nat.le_of_ble_eq_true rfl, Nat.le_of_ble_eq_true rfl⟩ hZ hK hP hD hS hA 7 0 rfl rfl [0, 3, 4] [1, 2, 5] [3, 0, 1, 4, 5, 2] rfl rfl rfl rfl (by decide) rfl rfl (fun H locs hP hD hS => ?_)
      refine lv_aload_n hx hb d_Mo_block_15 rfl (lv_at hl 0 rfl) ?_
      refine lv_iconst (v := 0) hx hb d_Mo_block_16 (by decide) ?_
      refine lv_aload_n hx hb d_Mo_block_17 rfl (lv_at hl 0 rfl) ?_
      refine va_get (D := (dC, dI)) (ci := 7) (v := .int win) (C := R_Mo) (T := T_Mo) (N := 21) hx hb hts w_359 hown hK hP 0 rfl rfl 3 (by decide) (hts _ w_370) (fun _ h9 => h9) rfl d_Mo_block_18 ?_
      obtain ⟨wdn_21, wdf_21, hc21, hf⟩ := bd2_some hf
      refine s_Vv (As := [.int (0 : Int32), .int win]) (rest := []) (wr := [(wo, .inl (cI, 8000, .inl wof)), (wh, .inl (cI, 8000, .inl whf)), (wp, .inl (cI, 9000, .inl wpf))]) (ws' := wd_Mo_block w wi wo wh wd wp wm wb wc wl cB cI cJ win won whn wpl wdn_21 wfo wmn wpn wbn wcn wat wnu wif wof whf wdf_21 wpf) C.call (c_Mo_append l dC dI cB cI cJ w wi wd wo wh wm wp wb wc wl  win won whn wpl wdn_12 wfo wmn wpn wbn wcn wat wnu wif wdf_12 (0 : Int32) win hc21) (cwV 2 hts (gd_V w_405 w_406 w_407 w_365 w_408) rfl rfl rfl ⟨rfl, hd_Mo_append⟩ ⟨Nat.le_of_ble_eq_true rfl, Nat.le_of_ble_eq_true rfl⟩) rfl hl.1 rfl (Nat.le_of_ble_eq_true rfl) d_Mo_block_21 ⟨Nat.le_of_ble_eq_true rfl, Nat.le_of_ble_eq_true rfl⟩ hZ hK hP hD hS hA 7 0 rfl rfl [0, 1, 4] [2, 3, 5] [3, 4, 0, 1, 5, 2] rfl rfl rfl rfl (by decide) rfl rfl (fun H locs hP hD hS => ?_)
      refine lv_aload_n hx hb d_Mo_block_24 rfl (lv_at hl 0 rfl) ?_
      refine lv_aload_n hx hb d_Mo_block_25 rfl (lv_at hl 0 rfl) ?_
      refine va_get (D := (dC, dI)) (ci := 7) (v := .int whn) (C := R_Mo) (T := T_Mo) (N := 21) hx hb hts w_359 hown hK hP 0 rfl rfl 5 (by decide) (hts _ w_373) (fun _ h9 => h9) rfl d_Mo_block_26 ?_
      refine lv_iload_n hx hb d_Mo_block_29 rfl (lv_at hl 1 rfl) ?_
      obtain ⟨wfo_30, wpn_30, wpf_30, hc30, hf⟩ := bd3_some hf
      refine s_Vv (As := [.int whn, .int x1]) (rest := []) (wr := [(wi, .inl (cI, 8000, .inl wif)), (wo, .inl (cI, 8000, .inl wof)), (wh, .inl (cI, 8000, .inl whf))]) (ws' := wd_Mo_block w wi wo wh wd wp wm wb wc wl cB cI cJ win won whn wpl wdn_21 wfo_30 wmn wpn_30 wbn wcn wat wnu wif wof whf wdf_21 wpf_30) C.call (c_Mo_writeBlock l dC dI cB cI cJ w wd wp wi wo wh wm wb wc wl  win won whn wpl wdn_21 wfo wmn wpn wbn wcn wat wnu wdf_21 wpf whn x1 hc30) (cwV 2 hts (gd_V w_409 w_410 w_411 w_365 w_412) rfl rfl rfl ⟨rfl, hd_Mo_writeBlock⟩ ⟨Nat.le_of_ble_eq_true rfl, Nat.le_of_ble_eq_true rfl⟩) rfl hl.1 rfl (Nat.le_of_ble_eq_true rfl) d_Mo_block_30 ⟨Nat.le_of_ble_eq_true rfl, Nat.le_of_ble_eq_true rfl⟩ hZ hK hP hD hS hA 7 0 rfl rfl [0, 4, 5] [1, 2, 3] [3, 0, 1, 2, 4, 5] rfl rfl rfl rfl (by decide) rfl rfl (fun H locs hP hD hS => ?_)
      refine lv_aload_n hx hb d_Mo_block_33 rfl (lv_at hl 0 rfl) ?_
      refine lv_aload_n hx hb d_Mo_block_34 rfl (lv_at hl 0 rfl) ?_
      refine va_get (D := (dC, dI)) (ci := 7) (v := .ref wp) (C := R_Mo) (T := T_Mo) (N := 21) hx hb hts w_359 hown hK hP 0 rfl rfl 12 (by decide) (hts _ w_361) (fun _ h9 => h9) rfl d_Mo_block_35 ?_
      refine lv_aload_n hx hb d_Mo_block_38 rfl (lv_at hl 0 rfl) ?_
      refine va_get (D := (dC, dI)) (ci := 7) (v := .int wpn_30) (C := R_Mo) (T := T_Mo) (N := 21) hx hb hts w_359 hown hK hP 0 rfl rfl 13 (by decide) (hts _ w_360) (fun _ h9 => h9) rfl d_Mo_block_39 ?_
      obtain ⟨r42, won_42, wof_42, hc42, hf⟩ := bd3_some hf
      refine s_Vi (As := [.ref wp, .int wpn_30]) (rest := []) (wr := [(wi, .inl (cI, 8000, .inl wif)), (wh, .inl (cI, 8000, .inl whf)), (wd, .inl (cI, 16000, .inl wdf_21))]) (ws' := wd_Mo_block w wi wo wh wd wp wm wb wc wl cB cI cJ win won_42 whn wpl wdn_21 wfo_30 wmn wpn_30 wbn wcn wat wnu wif wof_42 whf wdf_21 wpf_30) C.call (c_Mo_show l dC dI cB cI cJ w wo wp wi wh wd wm wp wb wc wl 9000 win won whn wpl wdn_21 wfo_30 wmn wpn_30 wbn wcn wat wnu wof wpf_30 wpn_30 hc42) (cwV 2 hts (gd_V w_413 w_414 w_415 w_365 w_416) rfl rfl rfl ⟨rfl, hd_Mo_show⟩ ⟨Nat.le_of_ble_eq_true rfl, Nat.le_of_ble_eq_true rfl⟩) rfl hl.1 rfl (Nat.le_of_ble_eq_true rfl) d_Mo_block_42 ⟨Nat.le_of_ble_eq_true rfl, Nat.le_of_ble_eq_true rfl⟩ hZ hK hP hD hS hA 7 0 rfl rfl [0, 2, 5] [1, 3, 4] [3, 0, 4, 1, 2, 5] rfl rfl rfl rfl (by decide) rfl rfl (fun H locs hP hD hS => ?_)
      cases hf
      exact s_iret hx hb hr hlocks hP hK hD hS d_Mo_block_45
    · have hf := br_neg c_6 hf
      refine lv_iconst (v := -1) hx hb d_Mo_block_9 (by decide) ?_
      cases hf
      exact s_iret hx hb hr hlocks hP hK hD hS d_Mo_block_10
end
noncomputable abbrev f_Mo_block (N : Nat) (x1 : Int32) (win : Int32) (won : Int32) (whn : Int32) (wdn : Int32) (wfo : Int32) (wpn : Int32) (wif : Nat → Int32) (wof : Nat → Int32) (whf : Nat → Int32) (wdf : Nat → Int32) (wpf : Nat → Int32) : Option (Int32 × Int32 × Int32 × Int32 × Int32 × (Nat → Int32) × (Nat → Int32) × (Nat → Int32)) := j_Mo_block_0 N x1 win won whn wdn wfo wpn wif wof whf wdf wpf
set_option maxRecDepth 100000 in
theorem c_Mo_block {N : Nat} (l : Launch) (dC : Nat → ClassId) (dI : Nat → Nat → Nat) (cB cI cJ : ClassId) (w wi wo wh wd wp wm wb wc wl : Nat) (win : Int32) (won : Int32) (whn : Int32) (wpl : Int32) (wdn : Int32) (wfo : Int32) (wmn : Int32) (wpn : Int32) (wbn : Int32) (wcn : Int32) (wat : Int32) (wnu : Int32) (wif : Nat → Int32) (wof : Nat → Int32) (whf : Nat → Int32) (wdf : Nat → Int32) (wpf : Nat → Int32) (x1 : Int32) {r_z : Int32} {won_z : Int32} {wdn_z : Int32} {wfo_z : Int32} {wpn_z : Int32} {wof_z : Nat → Int32} {wdf_z : Nat → Int32} {wpf_z : Nat → Int32} (hf : f_Mo_block N x1 win won whn wdn wfo wpn wif wof whf wdf wpf = some (r_z, won_z, wdn_z, wfo_z, wpn_z, wof_z, wdf_z, wpf_z)) : MetI l y_Mo_block ws_Mo_block rm_Mo_block (dC, dI) vwCl [(cB, .byte), (cI, .int), (cJ, .long)] [.ref w, .int x1] (wd_Mo_block w wi wo wh wd wp wm wb wc wl cB cI cJ win won whn wpl wdn wfo wmn wpn wbn wcn wat wnu wif wof whf wdf wpf) r_z (wd_Mo_block w wi wo wh wd wp wm wb wc wl cB cI cJ win won_z whn wpl wdn_z wfo_z wmn wpn_z wbn wcn wat wnu wif wof_z whf wdf_z wpf_z) 0 0 :=
  s_ofi (bytes := cd_Mo_block) (maxL := 2) (ret := (some .int)) (by decide) rfl (Nat.le_of_ble_eq_true rfl) (fun p e s m below meth c A ls C hK hA hP hD hS hl => k_Mo_block_0 C hK hA x1 win won whn wpl wdn wfo wmn wpn wbn wcn wat wnu wif wof whf wdf wpf hf hP hD hS (lv_sub hl [0, 1] rfl))

abbrev wd_Mo_byteAt (w wo wi wh wd wm wp wb wc wl : Nat) (cB cI cJ : ClassId) (win : Int32) (won : Int32) (whn : Int32) (wpl : Int32) (wdn : Int32) (wfo : Int32) (wmn : Int32) (wpn : Int32) (wbn : Int32) (wcn : Int32) (wat : Int32) (wnu : Int32) (wof : Nat → Int32) : va_W := [(w, .inr (7, [.ref wi, .ref wo, .ref wh, .int win, .int won, .int whn, .int wpl, .ref wd, .int wdn, .int wfo, .ref wm, .int wmn, .ref wp, .int wpn, .ref wb, .int wbn, .ref wc, .int wcn, .ref wl, .int wat, .int wnu])), (wo, .inl (cI, 8000, .inl wof))]
abbrev rm_Mo_byteAt : Room := { frames := 0, cells := 0, slots := 0, locals := 0 }
section
variable {p : Program} {l : Launch} {e : Env} {s : State} {m : MethodId} {args : Array Value} {below : List Frame} {meth : Method} {c : Code} {dC : Nat → ClassId} {dI : Nat → Nat → Nat} {A : Nat → Prop} {cB cI cJ : ClassId} {H : Heap} {locs : List Loc} {ls : Array Slot} {N : Nat} {w wo wi wh wd wm wp wb wc wl : Nat}
noncomputable def j_Mo_byteAt_12   : Option (Int32) :=
  (some (-1 : Int32) : Option (Int32))
set_option maxHeartbeats 4000000 in
set_option maxRecDepth 100000 in
theorem k_Mo_byteAt_12 {r_z : Int32} (C : Fx p s m args meth c cd_Mo_byteAt 2 R_Mo lw_g (some .int)) (hK : va_K (dC, dI) vwCl [(cB, .byte), (cI, .int), (cJ, .long)] s) (hA : ∀ q, s.heap.size ≤ q → A q) (win : Int32) (won : Int32) (whn : Int32) (wpl : Int32) (wdn : Int32) (wfo : Int32) (wmn : Int32) (wpn : Int32) (wbn : Int32) (wcn : Int32) (wat : Int32) (wnu : Int32) (wof : Nat → Int32)  (hf : j_Mo_byteAt_12   = some r_z) (hP : va_P (dC, dI) vwCl (wd_Mo_byteAt w wo wi wh wd wm wp wb wc wl cB cI cJ win won whn wpl wdn wfo wmn wpn wbn wcn wat wnu wof) H) (hD : va_D A (wd_Mo_byteAt w wo wi wh wd wm wp wb wc wl cB cI cJ win won whn wpl wdn wfo wmn wpn wbn wcn wat wnu wof)) (hS : va_S A s.heap H locs) (hl : lv_has ls 2 []) : W p l e rm_Mo_byteAt s m args below meth c H locs 0 0 (MQ below (sQi (dC, dI) vwCl [(cB, .byte), (cI, .int), (cJ, .long)] A r_z (wd_Mo_byteAt w wo wi wh wd wm wp wb wc wl cB cI cJ win won whn wpl wdn wfo wmn wpn wbn wcn wat wnu wof)) args s 0 0 A) (F0 m 12 ls []) := by
  obtain ⟨hx, hb, hml, hown, hts, hr, hlocks, hZ⟩ := id C
  unfold j_Mo_byteAt_12 at hf
  refine lv_iconst (v := -1) hx hb d_Mo_byteAt_12 (by decide) ?_
  refine lv_goto (tgt := 22) hx hb d_Mo_byteAt_13 (by decide) ?_
  cases hf
  exact s_iret hx hb hr hlocks hP hK hD hS d_Mo_byteAt_22
noncomputable def j_Mo_byteAt_0 (x1 : Int32) (won : Int32) (wof : Nat → Int32)  : Option (Int32) :=
  (if x1 < 0 then (j_Mo_byteAt_12  ) else (if x1 < won then as_ (vp_in x1 8000) ((some (wof x1.toNatClampNeg) : Option (Int32))) else (j_Mo_byteAt_12  )))
set_option maxHeartbeats 4000000 in
set_option maxRecDepth 100000 in
theorem k_Mo_byteAt_0 {r_z : Int32} (C : Fx p s m args meth c cd_Mo_byteAt 2 R_Mo lw_g (some .int)) (hK : va_K (dC, dI) vwCl [(cB, .byte), (cI, .int), (cJ, .long)] s) (hA : ∀ q, s.heap.size ≤ q → A q) (x1 : Int32) (win : Int32) (won : Int32) (whn : Int32) (wpl : Int32) (wdn : Int32) (wfo : Int32) (wmn : Int32) (wpn : Int32) (wbn : Int32) (wcn : Int32) (wat : Int32) (wnu : Int32) (wof : Nat → Int32)  (hf : j_Mo_byteAt_0 x1 won wof  = some r_z) (hP : va_P (dC, dI) vwCl (wd_Mo_byteAt w wo wi wh wd wm wp wb wc wl cB cI cJ win won whn wpl wdn wfo wmn wpn wbn wcn wat wnu wof) H) (hD : va_D A (wd_Mo_byteAt w wo wi wh wd wm wp wb wc wl cB cI cJ win won whn wpl wdn wfo wmn wpn wbn wcn wat wnu wof)) (hS : va_S A s.heap H locs) (hl : lv_has ls 2 [(0, .ref w), (1, .int x1)]) : W p l e rm_Mo_byteAt s m args below meth c H locs 0 0 (MQ below (sQi (dC, dI) vwCl [(cB, .byte), (cI, .int), (cJ, .long)] A r_z (wd_Mo_byteAt w wo wi wh wd wm wp wb wc wl cB cI cJ win won whn wpl wdn wfo wmn wpn wbn wcn wat wnu wof)) args s 0 0 A) (F0 m 0 ls []) := by
  obtain ⟨hx, hb, hml, hown, hts, hr, hlocks, hZ⟩ := id C
  unfold j_Mo_byteAt_0 at hf
  refine lv_iload_n hx hb d_Mo_byteAt_0 rfl (lv_at hl 1 rfl) ?_
  refine lv_if_lt (tgt := 12) hx hb d_Mo_byteAt_1 (by decide) (fun c_1 => ?_) (fun c_1 => ?_)
  · have hf := br_pos c_1 hf
    exact k_Mo_byteAt_12 C hK hA win won whn wpl wdn wfo wmn wpn wbn wcn wat wnu wof  hf hP hD hS (lv_sub hl [] rfl)
  · have hf := br_neg c_1 hf
    refine lv_iload_n hx hb d_Mo_byteAt_4 rfl (lv_at hl 1 rfl) ?_
    refine lv_aload_n hx hb d_Mo_byteAt_5 rfl (lv_at hl 0 rfl) ?_
    refine va_get (D := (dC, dI)) (ci := 7) (v := .int won) (C := R_Mo) (T := T_Mo) (N := 21) hx hb hts w_359 hown hK hP 0 rfl rfl 4 (by decide) (hts _ w_377) (fun _ h9 => h9) rfl d_Mo_byteAt_6 ?_
    refine lv_icmp_lt (tgt := 16) hx hb d_Mo_byteAt_9 (by decide) (fun c_9 => ?_) (fun c_9 => ?_)
    · have hf := br_pos c_9 hf
      refine lv_aload_n hx hb d_Mo_byteAt_16 rfl (lv_at hl 0 rfl) ?_
      refine va_get (D := (dC, dI)) (ci := 7) (v := .ref wo) (C := R_Mo) (T := T_Mo) (N := 21) hx hb hts w_359 hown hK hP 0 rfl rfl 1 (by decide) (hts _ w_378) (fun _ h9 => h9) rfl d_Mo_byteAt_17 ?_
      refine lv_iload_n hx hb d_Mo_byteAt_20 rfl (lv_at hl 1 rfl) ?_
      obtain ⟨h_in, hf⟩ := as_some hf
      refine va_iald hx hb hK hP 1 1 rfl rfl h_in d_Mo_byteAt_21 ?_
      cases hf
      exact s_iret hx hb hr hlocks hP hK hD hS d_Mo_byteAt_22
    · have hf := br_neg c_9 hf
      exact k_Mo_byteAt_12 C hK hA win won whn wpl wdn wfo wmn wpn wbn wcn wat wnu wof  hf hP hD hS (lv_sub hl [] rfl)
end
noncomputable abbrev f_Mo_byteAt (x1 : Int32) (won : Int32) (wof : Nat → Int32) : Option (Int32) := j_Mo_byteAt_0 x1 won wof
set_option maxRecDepth 100000 in
theorem c_Mo_byteAt (l : Launch) (dC : Nat → ClassId) (dI : Nat → Nat → Nat) (cB cI cJ : ClassId) (w wo wi wh wd wm wp wb wc wl : Nat) (win : Int32) (won : Int32) (whn : Int32) (wpl : Int32) (wdn : Int32) (wfo : Int32) (wmn : Int32) (wpn : Int32) (wbn : Int32) (wcn : Int32) (wat : Int32) (wnu : Int32) (wof : Nat → Int32) (x1 : Int32) {r_z : Int32} (hf : f_Mo_byteAt x1 won wof = some r_z) : MetI l y_Mo_byteAt ws_Mo_byteAt rm_Mo_byteAt (dC, dI) vwCl [(cB, .byte), (cI, .int), (cJ, .long)] [.ref w, .int x1] (wd_Mo_byteAt w wo wi wh wd wm wp wb wc wl cB cI cJ win won whn wpl wdn wfo wmn wpn wbn wcn wat wnu wof) r_z (wd_Mo_byteAt w wo wi wh wd wm wp wb wc wl cB cI cJ win won whn wpl wdn wfo wmn wpn wbn wcn wat wnu wof) 0 0 :=
  s_ofi (bytes := cd_Mo_byteAt) (maxL := 2) (ret := (some .int)) (by decide) rfl (Nat.le_of_ble_eq_true rfl) (fun p e s m below meth c A ls C hK hA hP hD hS hl => k_Mo_byteAt_0 C hK hA x1 win won whn wpl wdn wfo wmn wpn wbn wcn wat wnu wof hf hP hD hS (lv_sub hl [0, 1] rfl))

abbrev wd_Mo_clear (w wi wo wh wd wm wp wb wc wl : Nat) (cB cI cJ : ClassId) (win : Int32) (won : Int32) (whn : Int32) (wpl : Int32) (wdn : Int32) (wfo : Int32) (wmn : Int32) (wpn : Int32) (wbn : Int32) (wcn : Int32) (wat : Int32) (wnu : Int32) : va_W := [(w, .inr (7, [.ref wi, .ref wo, .ref wh, .int win, .int won, .int whn, .int wpl, .ref wd, .int wdn, .int wfo, .ref wm, .int wmn, .ref wp, .int wpn, .ref wb, .int wbn, .ref wc, .int wcn, .ref wl, .int wat, .int wnu]))]
abbrev rm_Mo_clear : Room := { frames := 0, cells := 0, slots := 0, locals := 0 }
section
variable {p : Program} {l : Launch} {e : Env} {s : State} {m : MethodId} {args : Array Value} {below : List Frame} {meth : Method} {c : Code} {dC : Nat → ClassId} {dI : Nat → Nat → Nat} {A : Nat → Prop} {cB cI cJ : ClassId} {H : Heap} {locs : List Loc} {ls : Array Slot} {N : Nat} {w wi wo wh wd wm wp wb wc wl : Nat}
noncomputable def j_Mo_clear_0   : Option (Int32) :=
  (some (0 : Int32) : Option (Int32))
set_option maxHeartbeats 4000000 in
set_option maxRecDepth 100000 in
theorem k_Mo_clear_0 {win_z : Int32} (C : Fx p s m args meth c cd_Mo_clear 1 R_Mo lw_g none) (hK : va_K (dC, dI) vwCl [(cB, .byte), (cI, .int), (cJ, .long)] s) (hA : ∀ q, s.heap.size ≤ q → A q) (win : Int32) (won : Int32) (whn : Int32) (wpl : Int32) (wdn : Int32) (wfo : Int32) (wmn : Int32) (wpn : Int32) (wbn : Int32) (wcn : Int32) (wat : Int32) (wnu : Int32)  (hf : j_Mo_clear_0   = some win_z) (hP : va_P (dC, dI) vwCl (wd_Mo_clear w wi wo wh wd wm wp wb wc wl cB cI cJ win won whn wpl wdn wfo wmn wpn wbn wcn wat wnu) H) (hD : va_D A (wd_Mo_clear w wi wo wh wd wm wp wb wc wl cB cI cJ win won whn wpl wdn wfo wmn wpn wbn wcn wat wnu)) (hS : va_S A s.heap H locs) (hl : lv_has ls 1 [(0, .ref w)]) : W p l e rm_Mo_clear s m args below meth c H locs 0 0 (MQ below (sQv (dC, dI) vwCl [(cB, .byte), (cI, .int), (cJ, .long)] A (wd_Mo_clear w wi wo wh wd wm wp wb wc wl cB cI cJ win_z won whn wpl wdn wfo wmn wpn wbn wcn wat wnu)) args s 0 0 A) (F0 m 0 ls []) := by
  obtain ⟨hx, hb, hml, hown, hts, hr, hlocks, hZ⟩ := id C
  unfold j_Mo_clear_0 at hf
  refine lv_aload_n hx hb d_Mo_clear_0 rfl (lv_at hl 0 rfl) ?_
  refine lv_iconst (v := 0) hx hb d_Mo_clear_1 (by decide) ?_
  refine va_put (D := (dC, dI)) (ci := 7) (v := .int (0 : Int32)) (ty := .int) (C := R_Mo) (T := T_Mo) (N := 21) hx hb hts w_359 ty_Mo ty_Mo_ok nm_Mo hown hK hP hD hS 0 rfl rfl 3 (by decide) (hts _ w_370) (fun _ h9 => h9) rfl (by decide +kernel) rfl rfl (Nat.le_of_ble_eq_true rfl) d_Mo_clear_2 (fun H locs hP hD hS => ?_)
  have hP : va_P (dC, dI) vwCl (wd_Mo_clear w wi wo wh wd wm wp wb wc wl cB cI cJ (0 : Int32) won whn wpl wdn wfo wmn wpn wbn wcn wat wnu) H := hP
  have hD : va_D A (wd_Mo_clear w wi wo wh wd wm wp wb wc wl cB cI cJ (0 : Int32) won whn wpl wdn wfo wmn wpn wbn wcn wat wnu) := hD
  cases hf
  exact s_vret hx hb hr hlocks hP hK hD hS d_Mo_clear_5
end
noncomputable abbrev f_Mo_clear  : Option (Int32) := j_Mo_clear_0 
set_option maxRecDepth 100000 in
theorem c_Mo_clear (l : Launch) (dC : Nat → ClassId) (dI : Nat → Nat → Nat) (cB cI cJ : ClassId) (w wi wo wh wd wm wp wb wc wl : Nat) (win : Int32) (won : Int32) (whn : Int32) (wpl : Int32) (wdn : Int32) (wfo : Int32) (wmn : Int32) (wpn : Int32) (wbn : Int32) (wcn : Int32) (wat : Int32) (wnu : Int32)  {win_z : Int32} (hf : f_Mo_clear  = some win_z) : MetV l y_Mo_clear ws_Mo_clear rm_Mo_clear (dC, dI) vwCl [(cB, .byte), (cI, .int), (cJ, .long)] [.ref w] (wd_Mo_clear w wi wo wh wd wm wp wb wc wl cB cI cJ win won whn wpl wdn wfo wmn wpn wbn wcn wat wnu)  (wd_Mo_clear w wi wo wh wd wm wp wb wc wl cB cI cJ win_z won whn wpl wdn wfo wmn wpn wbn wcn wat wnu) 0 0 :=
  s_ofv (bytes := cd_Mo_clear) (maxL := 1) (ret := none) (by decide) rfl (Nat.le_of_ble_eq_true rfl) (fun p e s m below meth c A ls C hK hA hP hD hS hl => k_Mo_clear_0 C hK hA win won whn wpl wdn wfo wmn wpn wbn wcn wat wnu hf hP hD hS (lv_sub hl [0] rfl))

abbrev wd_Mo_fault (w wi wo wh wd wm wp wb wc wl : Nat) (cB cI cJ : ClassId) (win : Int32) (won : Int32) (whn : Int32) (wpl : Int32) (wdn : Int32) (wfo : Int32) (wmn : Int32) (wpn : Int32) (wbn : Int32) (wcn : Int32) (wat : Int32) (wnu : Int32) : va_W := [(w, .inr (7, [.ref wi, .ref wo, .ref wh, .int win, .int won, .int whn, .int wpl, .ref wd, .int wdn, .int wfo, .ref wm, .int wmn, .ref wp, .int wpn, .ref wb, .int wbn, .ref wc, .int wcn, .ref wl, .int wat, .int wnu]))]
abbrev rm_Mo_fault : Room := { frames := 0, cells := 0, slots := 0, locals := 0 }
section
variable {p : Program} {l : Launch} {e : Env} {s : State} {m : MethodId} {args : Array Value} {below : List Frame} {meth : Method} {c : Code} {dC : Nat → ClassId} {dI : Nat → Nat → Nat} {A : Nat → Prop} {cB cI cJ : ClassId} {H : Heap} {locs : List Loc} {ls : Array Slot} {N : Nat} {w wi wo wh wd wm wp wb wc wl : Nat}
noncomputable def j_Mo_fault_0 (x1 : Int32) (x2 : Int32)  : Option (Int32 × Int32) :=
  (some (x1, x2) : Option (Int32 × Int32))
set_option maxHeartbeats 4000000 in
set_option maxRecDepth 100000 in
theorem k_Mo_fault_0 {r_z : Int32} {wpl_z : Int32} (C : Fx p s m args meth c cd_Mo_fault 3 R_Mo lw_g (some .int)) (hK : va_K (dC, dI) vwCl [(cB, .byte), (cI, .int), (cJ, .long)] s) (hA : ∀ q, s.heap.size ≤ q → A q) (x1 : Int32) (x2 : Int32) (win : Int32) (won : Int32) (whn : Int32) (wpl : Int32) (wdn : Int32) (wfo : Int32) (wmn : Int32) (wpn : Int32) (wbn : Int32) (wcn : Int32) (wat : Int32) (wnu : Int32)  (hf : j_Mo_fault_0 x1 x2  = some (r_z, wpl_z)) (hP : va_P (dC, dI) vwCl (wd_Mo_fault w wi wo wh wd wm wp wb wc wl cB cI cJ win won whn wpl wdn wfo wmn wpn wbn wcn wat wnu) H) (hD : va_D A (wd_Mo_fault w wi wo wh wd wm wp wb wc wl cB cI cJ win won whn wpl wdn wfo wmn wpn wbn wcn wat wnu)) (hS : va_S A s.heap H locs) (hl : lv_has ls 3 [(0, .ref w), (1, .int x1), (2, .int x2)]) : W p l e rm_Mo_fault s m args below meth c H locs 0 0 (MQ below (sQi (dC, dI) vwCl [(cB, .byte), (cI, .int), (cJ, .long)] A r_z (wd_Mo_fault w wi wo wh wd wm wp wb wc wl cB cI cJ win won whn wpl_z wdn wfo wmn wpn wbn wcn wat wnu)) args s 0 0 A) (F0 m 0 ls []) := by
  obtain ⟨hx, hb, hml, hown, hts, hr, hlocks, hZ⟩ := id C
  unfold j_Mo_fault_0 at hf
  refine lv_aload_n hx hb d_Mo_fault_0 rfl (lv_at hl 0 rfl) ?_
  refine lv_iload_n hx hb d_Mo_fault_1 rfl (lv_at hl 2 rfl) ?_
  refine va_put (D := (dC, dI)) (ci := 7) (v := .int x2) (ty := .int) (C := R_Mo) (T := T_Mo) (N := 21) hx hb hts w_359 ty_Mo ty_Mo_ok nm_Mo hown hK hP hD hS 0 rfl rfl 6 (by decide) (hts _ w_417) (fun _ h9 => h9) rfl (by decide +kernel) rfl rfl (Nat.le_of_ble_eq_true rfl) d_Mo_fault_2 (fun H locs hP hD hS => ?_)
  have hP : va_P (dC, dI) vwCl (wd_Mo_fault w wi wo wh wd wm wp wb wc wl cB cI cJ win won whn x2 wdn wfo wmn wpn wbn wcn wat wnu) H := hP
  have hD : va_D A (wd_Mo_fault w wi wo wh wd wm wp wb wc wl cB cI cJ win won whn x2 wdn wfo wmn wpn wbn wcn wat wnu) := hD
  refine lv_iload_n hx hb d_Mo_fault_5 rfl (lv_at hl 1 rfl) ?_
  cases hf
  exact s_iret hx hb hr hlocks hP hK hD hS d_Mo_fault_6
end
noncomputable abbrev f_Mo_fault (x1 : Int32) (x2 : Int32) : Option (Int32 × Int32) := j_Mo_fault_0 x1 x2
set_option maxRecDepth 100000 in
theorem c_Mo_fault (l : Launch) (dC : Nat → ClassId) (dI : Nat → Nat → Nat) (cB cI cJ : ClassId) (w wi wo wh wd wm wp wb wc wl : Nat) (win : Int32) (won : Int32) (whn : Int32) (wpl : Int32) (wdn : Int32) (wfo : Int32) (wmn : Int32) (wpn : Int32) (wbn : Int32) (wcn : Int32) (wat : Int32) (wnu : Int32) (x1 : Int32) (x2 : Int32) {r_z : Int32} {wpl_z : Int32} (hf : f_Mo_fault x1 x2 = some (r_z, wpl_z)) : MetI l y_Mo_fault ws_Mo_fault rm_Mo_fault (dC, dI) vwCl [(cB, .byte), (cI, .int), (cJ, .long)] [.ref w, .int x1, .int x2] (wd_Mo_fault w wi wo wh wd wm wp wb wc wl cB cI cJ win won whn wpl wdn wfo wmn wpn wbn wcn wat wnu) r_z (wd_Mo_fault w wi wo wh wd wm wp wb wc wl cB cI cJ win won whn wpl_z wdn wfo wmn wpn wbn wcn wat wnu) 0 0 :=
  s_ofi (bytes := cd_Mo_fault) (maxL := 3) (ret := (some .int)) (by decide) rfl (Nat.le_of_ble_eq_true rfl) (fun p e s m below meth c A ls C hK hA hP hD hS hl => k_Mo_fault_0 C hK hA x1 x2 win won whn wpl wdn wfo wmn wpn wbn wcn wat wnu hf hP hD hS (lv_sub hl [0, 1, 2] rfl))

abbrev wd_Mo_make (w wm wi wo wh wd wp wb wc wl : Nat) (cB cI cJ : ClassId) (win : Int32) (won : Int32) (whn : Int32) (wpl : Int32) (wdn : Int32) (wfo : Int32) (wmn : Int32) (wpn : Int32) (wbn : Int32) (wcn : Int32) (wat : Int32) (wnu : Int32) (wmf : Nat → Int32) : va_W := [(w, .inr (7, [.ref wi, .ref wo, .ref wh, .int win, .int won, .int whn, .int wpl, .ref wd, .int wdn, .int wfo, .ref wm, .int wmn, .ref wp, .int wpn, .ref wb, .int wbn, .ref wc, .int wcn, .ref wl, .int wat, .int wnu])), (wm, .inl (cI, 9000, .inl wmf))]
abbrev rm_Mo_make : Room := { frames := 0, cells := 0, slots := 0, locals := 0 }
section
variable {p : Program} {l : Launch} {e : Env} {s : State} {m : MethodId} {args : Array Value} {below : List Frame} {meth : Method} {c : Code} {dC : Nat → ClassId} {dI : Nat → Nat → Nat} {A : Nat → Prop} {cB cI cJ : ClassId} {H : Heap} {locs : List Loc} {ls : Array Slot} {N : Nat} {w wm wi wo wh wd wp wb wc wl : Nat}
noncomputable def j_Mo_make_20 (wmn : Int32) (wmf : Nat → Int32)  : Option (Int32 × (Nat → Int32)) :=
  (some ((wmn + (1 : Int32)), wmf) : Option (Int32 × (Nat → Int32)))
set_option maxHeartbeats 4000000 in
set_option maxRecDepth 100000 in
theorem k_Mo_make_20 {wmn_z : Int32} {wmf_z : Nat → Int32} (C : Fx p s m args meth c cd_Mo_make 2 R_Mo lw_g none) (hK : va_K (dC, dI) vwCl [(cB, .byte), (cI, .int), (cJ, .long)] s) (hA : ∀ q, s.heap.size ≤ q → A q) (win : Int32) (won : Int32) (whn : Int32) (wpl : Int32) (wdn : Int32) (wfo : Int32) (wmn : Int32) (wpn : Int32) (wbn : Int32) (wcn : Int32) (wat : Int32) (wnu : Int32) (wmf : Nat → Int32)  (hf : j_Mo_make_20 wmn wmf  = some (wmn_z, wmf_z)) (hP : va_P (dC, dI) vwCl (wd_Mo_make w wm wi wo wh wd wp wb wc wl cB cI cJ win won whn wpl wdn wfo wmn wpn wbn wcn wat wnu wmf) H) (hD : va_D A (wd_Mo_make w wm wi wo wh wd wp wb wc wl cB cI cJ win won whn wpl wdn wfo wmn wpn wbn wcn wat wnu wmf)) (hS : va_S A s.heap H locs) (hl : lv_has ls 2 [(0, .ref w)]) : W p l e rm_Mo_make s m args below meth c H locs 0 0 (MQ below (sQv (dC, dI) vwCl [(cB, .byte), (cI, .int), (cJ, .long)] A (wd_Mo_make w wm wi wo wh wd wp wb wc wl cB cI cJ win won whn wpl wdn wfo wmn_z wpn wbn wcn wat wnu wmf_z)) args s 0 0 A) (F0 m 20 ls []) := by
  obtain ⟨hx, hb, hml, hown, hts, hr, hlocks, hZ⟩ := id C
  unfold j_Mo_make_20 at hf
  refine lv_aload_n hx hb d_Mo_make_20 rfl (lv_at hl 0 rfl) ?_
  refine lv_dup hx hb d_Mo_make_21 rfl ?_
  refine va_get (D := (dC, dI)) (ci := 7) (v := .int wmn) (C := R_Mo) (T := T_Mo) (N := 21) hx hb hts w_359 hown hK hP 0 rfl rfl 11 (by decide) (hts _ w_418) (fun _ h9 => h9) rfl d_Mo_make_22 ?_
  refine lv_iconst (v := 1) hx hb d_Mo_make_25 (by decide) ?_
  refine lv_iadd hx hb d_Mo_make_26 ?_
  refine va_put (D := (dC, dI)) (ci := 7) (v := .int (wmn + (1 : Int32))) (ty := .int) (C := R_Mo) (T := T_Mo) (N := 21) hx hb hts w_359 ty_Mo ty_Mo_ok nm_Mo hown hK hP hD hS 0 rfl rfl 11 (by decide) (hts _ w_418) (fun _ h9 => h9) rfl (by decide +kernel) rfl rfl (Nat.le_of_ble_eq_true rfl) d_Mo_make_27 (fun H locs hP hD hS => ?_)
  have hP : va_P (dC, dI) vwCl (wd_Mo_make w wm wi wo wh wd wp wb wc wl cB cI cJ win won whn wpl wdn wfo (wmn + (1 : Int32)) wpn wbn wcn wat wnu wmf) H := hP
  have hD : va_D A (wd_Mo_make w wm wi wo wh wd wp wb wc wl cB cI cJ win won whn wpl wdn wfo (wmn + (1 : Int32)) wpn wbn wcn wat wnu wmf) := hD
  cases hf
  exact s_vret hx hb hr hlocks hP hK hD hS d_Mo_make_30
noncomputable def j_Mo_make_0 (x1 : Int32) (wmn : Int32) (wmf : Nat → Int32)  : Option (Int32 × (Nat → Int32)) :=
  (if (9000 : Int32) ≤ wmn then (j_Mo_make_20 wmn wmf ) else as_ (vp_in wmn 9000) ((j_Mo_make_20 wmn (upd wmf wmn.toNatClampNeg x1) )))
set_option maxHeartbeats 4000000 in
set_option maxRecDepth 100000 in
theorem k_Mo_make_0 {wmn_z : Int32} {wmf_z : Nat → Int32} (C : Fx p s m args meth c cd_Mo_make 2 R_Mo lw_g none) (hK : va_K (dC, dI) vwCl [(cB, .byte), (cI, .int), (cJ, .long)] s) (hA : ∀ q, s.heap.size ≤ q → A q) (x1 : Int32) (win : Int32) (won : Int32) (whn : Int32) (wpl : Int32) (wdn : Int32) (wfo : Int32) (wmn : Int32) (wpn : Int32) (wbn : Int32) (wcn : Int32) (wat : Int32) (wnu : Int32) (wmf : Nat → Int32)  (hf : j_Mo_make_0 x1 wmn wmf  = some (wmn_z, wmf_z)) (hP : va_P (dC, dI) vwCl (wd_Mo_make w wm wi wo wh wd wp wb wc wl cB cI cJ win won whn wpl wdn wfo wmn wpn wbn wcn wat wnu wmf) H) (hD : va_D A (wd_Mo_make w wm wi wo wh wd wp wb wc wl cB cI cJ win won whn wpl wdn wfo wmn wpn wbn wcn wat wnu wmf)) (hS : va_S A s.heap H locs) (hl : lv_has ls 2 [(0, .ref w), (1, .int x1)]) : W p l e rm_Mo_make s m args below meth c H locs 0 0 (MQ below (sQv (dC, dI) vwCl [(cB, .byte), (cI, .int), (cJ, .long)] A (wd_Mo_make w wm wi wo wh wd wp wb wc wl cB cI cJ win won whn wpl wdn wfo wmn_z wpn wbn wcn wat wnu wmf_z)) args s 0 0 A) (F0 m 0 ls []) := by
  obtain ⟨hx, hb, hml, hown, hts, hr, hlocks, hZ⟩ := id C
  unfold j_Mo_make_0 at hf
  refine lv_aload_n hx hb d_Mo_make_0 rfl (lv_at hl 0 rfl) ?_
  refine va_get (D := (dC, dI)) (ci := 7) (v := .int wmn) (C := R_Mo) (T := T_Mo) (N := 21) hx hb hts w_359 hown hK hP 0 rfl rfl 11 (by decide) (hts _ w_418) (fun _ h9 => h9) rfl d_Mo_make_1 ?_
  refine lv_sipush (v := 9000) hx hb d_Mo_make_4 (by decide) ?_
  refine lv_icmp_ge (tgt := 20) hx hb d_Mo_make_7 (by decide) (fun c_7 => ?_) (fun c_7 => ?_)
  · have hf := br_pos c_7 hf
    exact k_Mo_make_20 C hK hA win won whn wpl wdn wfo wmn wpn wbn wcn wat wnu wmf  hf hP hD hS (lv_sub hl [0] rfl)
  · have hf := br_neg c_7 hf
    refine lv_aload_n hx hb d_Mo_make_10 rfl (lv_at hl 0 rfl) ?_
    refine va_get (D := (dC, dI)) (ci := 7) (v := .ref wm) (C := R_Mo) (T := T_Mo) (N := 21) hx hb hts w_359 hown hK hP 0 rfl rfl 10 (by decide) (hts _ w_419) (fun _ h9 => h9) rfl d_Mo_make_11 ?_
    refine lv_aload_n hx hb d_Mo_make_14 rfl (lv_at hl 0 rfl) ?_
    refine va_get (D := (dC, dI)) (ci := 7) (v := .int wmn) (C := R_Mo) (T := T_Mo) (N := 21) hx hb hts w_359 hown hK hP 0 rfl rfl 11 (by decide) (hts _ w_418) (fun _ h9 => h9) rfl d_Mo_make_15 ?_
    refine lv_iload_n hx hb d_Mo_make_18 rfl (lv_at hl 1 rfl) ?_
    obtain ⟨h_in, hf⟩ := as_some hf
    refine va_iast hx hb hK hP hD hS 1 1 rfl rfl h_in d_Mo_make_19 (fun H locs hP hD hS => ?_)
    have hP : va_P (dC, dI) vwCl (wd_Mo_make w wm wi wo wh wd wp wb wc wl cB cI cJ win won whn wpl wdn wfo wmn wpn wbn wcn wat wnu (upd wmf wmn.toNatClampNeg x1)) H := hP
    have hD : va_D A (wd_Mo_make w wm wi wo wh wd wp wb wc wl cB cI cJ win won whn wpl wdn wfo wmn wpn wbn wcn wat wnu (upd wmf wmn.toNatClampNeg x1)) := hD
    exact k_Mo_make_20 C hK hA win won whn wpl wdn wfo wmn wpn wbn wcn wat wnu (upd wmf wmn.toNatClampNeg x1)  hf hP hD hS (lv_sub hl [0] rfl)
end
noncomputable abbrev f_Mo_make (x1 : Int32) (wmn : Int32) (wmf : Nat → Int32) : Option (Int32 × (Nat → Int32)) := j_Mo_make_0 x1 wmn wmf
set_option maxRecDepth 100000 in
theorem c_Mo_make (l : Launch) (dC : Nat → ClassId) (dI : Nat → Nat → Nat) (cB cI cJ : ClassId) (w wm wi wo wh wd wp wb wc wl : Nat) (win : Int32) (won : Int32) (whn : Int32) (wpl : Int32) (wdn : Int32) (wfo : Int32) (wmn : Int32) (wpn : Int32) (wbn : Int32) (wcn : Int32) (wat : Int32) (wnu : Int32) (wmf : Nat → Int32) (x1 : Int32) {wmn_z : Int32} {wmf_z : Nat → Int32} (hf : f_Mo_make x1 wmn wmf = some (wmn_z, wmf_z)) : MetV l y_Mo_make ws_Mo_make rm_Mo_make (dC, dI) vwCl [(cB, .byte), (cI, .int), (cJ, .long)] [.ref w, .int x1] (wd_Mo_make w wm wi wo wh wd wp wb wc wl cB cI cJ win won whn wpl wdn wfo wmn wpn wbn wcn wat wnu wmf)  (wd_Mo_make w wm wi wo wh wd wp wb wc wl cB cI cJ win won whn wpl wdn wfo wmn_z wpn wbn wcn wat wnu wmf_z) 0 0 :=
  s_ofv (bytes := cd_Mo_make) (maxL := 2) (ret := none) (by decide) rfl (Nat.le_of_ble_eq_true rfl) (fun p e s m below meth c A ls C hK hA hP hD hS hl => k_Mo_make_0 C hK hA x1 win won whn wpl wdn wfo wmn wpn wbn wcn wat wnu wmf hf hP hD hS (lv_sub hl [0, 1] rfl))

abbrev wd_Mo_makeNumber (w wm wi wo wh wd wp wb wc wl : Nat) (cB cI cJ : ClassId) (win : Int32) (won : Int32) (whn : Int32) (wpl : Int32) (wdn : Int32) (wfo : Int32) (wmn : Int32) (wpn : Int32) (wbn : Int32) (wcn : Int32) (wat : Int32) (wnu : Int32) (wmf : Nat → Int32) : va_W := [(w, .inr (7, [.ref wi, .ref wo, .ref wh, .int win, .int won, .int whn, .int wpl, .ref wd, .int wdn, .int wfo, .ref wm, .int wmn, .ref wp, .int wpn, .ref wb, .int wbn, .ref wc, .int wcn, .ref wl, .int wat, .int wnu])), (wm, .inl (cI, 9000, .inl wmf))]
abbrev rm_Mo_makeNumber : Room := { frames := 1, cells := 0, slots := 0, locals := 21 }
section
variable {p : Program} {l : Launch} {e : Env} {s : State} {m : MethodId} {args : Array Value} {below : List Frame} {meth : Method} {c : Code} {dC : Nat → ClassId} {dI : Nat → Nat → Nat} {A : Nat → Prop} {cB cI cJ : ClassId} {H : Heap} {locs : List Loc} {ls : Array Slot} {N : Nat} {w wm wi wo wh wd wp wb wc wl : Nat}
noncomputable def b_Mo_makeNumber_3 (x1 : Int64) (x3 : Int32)  (kh3 : Int32 → Int32 → (Nat → Int32) → Option (Int32 × (Nat → Int32))) (x4 : Int32) (wmn : Int32) (wmf : Nat → Int32) : Option (Int32 × (Nat → Int32)) :=
  (if x3 ≤ x4 then (some (wmn, wmf) : Option (Int32 × (Nat → Int32))) else bd2 (f_Mo_make (((sr64 x1 ((8 : Int32) * x4)) &&& (255 : Int64)).toInt32) wmn wmf) (fun wmn_22 wmf_22 => (kh3 (x4 + 1) wmn_22 wmf_22)))
set_option maxHeartbeats 4000000 in
set_option maxRecDepth 100000 in
theorem k_Mo_makeNumber_3 {wmn_z : Int32} {wmf_z : Nat → Int32} (C : Fx p s m args meth c cd_Mo_makeNumber 5 R_Mo lw_g none) (hK : va_K (dC, dI) vwCl [(cB, .byte), (cI, .int), (cJ, .long)] s) (hA : ∀ q, s.heap.size ≤ q → A q) (x1 : Int64) (x3 : Int32) (win : Int32) (won : Int32) (whn : Int32) (wpl : Int32) (wdn : Int32) (wfo : Int32) (wpn : Int32) (wbn : Int32) (wcn : Int32) (wat : Int32) (wnu : Int32)  : ∀ (n : Nat) (x4 : Int32) (wmn : Int32) (wmf : Nat → Int32), loop3 (b_Mo_makeNumber_3 x1 x3 ) n x4 wmn wmf = some (wmn_z, wmf_z) → ∀ (H : Heap) (locs : List Loc), va_P (dC, dI) vwCl (wd_Mo_makeNumber w wm wi wo wh wd wp wb wc wl cB cI cJ win won whn wpl wdn wfo wmn wpn wbn wcn wat wnu wmf) H → va_D A (wd_Mo_makeNumber w wm wi wo wh wd wp wb wc wl cB cI cJ win won whn wpl wdn wfo wmn wpn wbn wcn wat wnu wmf) → va_S A s.heap H locs → ∀ (ls : Array Slot), lv_has ls 5 [(0, .ref w), (1, .long x1), (3, .int x3), (4, .int x4)] → W p l e rm_Mo_makeNumber s m args below meth c H locs 0 0 (MQ below (sQv (dC, dI) vwCl [(cB, .byte), (cI, .int), (cJ, .long)] A (wd_Mo_makeNumber w wm wi wo wh wd wp wb wc wl cB cI cJ win won whn wpl wdn wfo wmn_z wpn wbn wcn wat wnu wmf_z)) args s 0 0 A) (F0 m 3 ls []) := by
  obtain ⟨hx, hb, hml, hown, hts, hr, hlocks, hZ⟩ := id C
  intro n
  induction n with
  | zero => intro x4 wmn wmf hf; cases hf
  | succ n ih3 =>
    intro x4 wmn wmf hf H locs hP hD hS ls hl
    have hf : b_Mo_makeNumber_3 x1 x3  (loop3 (b_Mo_makeNumber_3 x1 x3 ) n) x4 wmn wmf = some (wmn_z, wmf_z) := hf
    generalize loop3 (b_Mo_makeNumber_3 x1 x3 ) n = kh3 at hf ih3
    unfold b_Mo_makeNumber_3 at hf
    refine lv_iload hx hb d_Mo_makeNumber_3 (lv_at hl 3 rfl) ?_
    refine lv_iload_n hx hb d_Mo_makeNumber_5 rfl (lv_at hl 2 rfl) ?_
    refine lv_icmp_ge (tgt := 31) hx hb d_Mo_makeNumber_6 (by decide) (fun c_6 => ?_) (fun c_6 => ?_)
    · have hf := br_pos c_6 hf
      cases hf
      exact s_vret hx hb hr hlocks hP hK hD hS d_Mo_makeNumber_31
    · have hf := br_neg c_6 hf
      refine lv_aload_n hx hb d_Mo_makeNumber_9 rfl (lv_at hl 0 rfl) ?_
      refine lv_lload_n hx hb d_Mo_makeNumber_10 rfl (lv_at hl 1 rfl) ?_
      refine lv_bipush (v := 8) hx hb d_Mo_makeNumber_11 (by decide) ?_
      refine lv_iload hx hb d_Mo_makeNumber_13 (lv_at hl 3 rfl) ?_
      refine lv_imul hx hb d_Mo_makeNumber_15 ?_
      refine lv_lshr (v := (sr64 x1 ((8 : Int32) * x4))) hx hb d_Mo_makeNumber_16 rfl ?_
      refine lv_ldc2 (v := 255) hx hb hown (hts _ w_420) d_Mo_makeNumber_17 ?_
      refine lv_land hx hb d_Mo_makeNumber_20 ?_
      refine lv_l2i (v := (((sr64 x1 ((8 : Int32) * x4)) &&& (255 : Int64)).toInt32)) hx hb d_Mo_makeNumber_21 rfl ?_
      obtain ⟨wmn_22, wmf_22, hc22, hf⟩ := bd2_some hf
      refine s_Vv (As := [.int (((sr64 x1 ((8 : Int32) * x4)) &&& (255 : Int64)).toInt32)]) (rest := []) (wr := []) (ws' := wd_Mo_makeNumber w wm wi wo wh wd wp wb wc wl cB cI cJ win won whn wpl wdn wfo wmn_22 wpn wbn wcn wat wnu wmf_22) C.call (c_Mo_make l dC dI cB cI cJ w wm wi wo wh wd wp wb wc wl  win won whn wpl wdn wfo wmn wpn wbn wcn wat wnu wmf (((sr64 x1 ((8 : Int32) * x4)) &&& (255 : Int64)).toInt32) hc22) (cwV 1 hts (gd_V w_421 w_422 w_423 w_365 w_424) rfl rfl rfl ⟨rfl, hd_Mo_make⟩ ⟨Nat.le_of_ble_eq_true rfl, Nat.le_of_ble_eq_true rfl⟩) rfl hl.1 rfl (Nat.le_of_ble_eq_true rfl) d_Mo_makeNumber_22 ⟨Nat.le_of_ble_eq_true rfl, Nat.le_of_ble_eq_true rfl⟩ hZ hK hP hD hS hA 7 0 rfl rfl [0, 1] [] [0, 1] rfl rfl rfl rfl (by decide) rfl rfl (fun H locs hP hD hS => ?_)
      refine lv_iinc (v := (x4 + 1)) (lv' := [(4, .int (x4 + 1)), (0, .ref w), (1, .long x1), (3, .int x3)]) hx hb d_Mo_makeNumber_25 hl (k := 3) rfl (congrArg (fun z => x4 + z) (by decide)) (by decide) rfl (fun ls hl => ?_)
      refine lv_goto (tgt := 3) hx hb d_Mo_makeNumber_28 (by decide) ?_
      exact ih3 (x4 + 1) wmn_22 wmf_22 hf _ _ hP hD hS _ (lv_sub hl [1, 2, 3, 0] rfl)
noncomputable def j_Mo_makeNumber_0 (N : Nat) (x1 : Int64) (x3 : Int32) (wmn : Int32) (wmf : Nat → Int32)  : Option (Int32 × (Nat → Int32)) :=
  (loop3 (b_Mo_makeNumber_3 x1 x3 ) N (0 : Int32) wmn wmf)
set_option maxHeartbeats 4000000 in
set_option maxRecDepth 100000 in
theorem k_Mo_makeNumber_0 {wmn_z : Int32} {wmf_z : Nat → Int32} (C : Fx p s m args meth c cd_Mo_makeNumber 5 R_Mo lw_g none) (hK : va_K (dC, dI) vwCl [(cB, .byte), (cI, .int), (cJ, .long)] s) (hA : ∀ q, s.heap.size ≤ q → A q) (x1 : Int64) (x3 : Int32) (win : Int32) (won : Int32) (whn : Int32) (wpl : Int32) (wdn : Int32) (wfo : Int32) (wmn : Int32) (wpn : Int32) (wbn : Int32) (wcn : Int32) (wat : Int32) (wnu : Int32) (wmf : Nat → Int32)  (hf : j_Mo_makeNumber_0 N x1 x3 wmn wmf  = some (wmn_z, wmf_z)) (hP : va_P (dC, dI) vwCl (wd_Mo_makeNumber w wm wi wo wh wd wp wb wc wl cB cI cJ win won whn wpl wdn wfo wmn wpn wbn wcn wat wnu wmf) H) (hD : va_D A (wd_Mo_makeNumber w wm wi wo wh wd wp wb wc wl cB cI cJ win won whn wpl wdn wfo wmn wpn wbn wcn wat wnu wmf)) (hS : va_S A s.heap H locs) (hl : lv_has ls 5 [(0, .ref w), (1, .long x1), (3, .int x3)]) : W p l e rm_Mo_makeNumber s m args below meth c H locs 0 0 (MQ below (sQv (dC, dI) vwCl [(cB, .byte), (cI, .int), (cJ, .long)] A (wd_Mo_makeNumber w wm wi wo wh wd wp wb wc wl cB cI cJ win won whn wpl wdn wfo wmn_z wpn wbn wcn wat wnu wmf_z)) args s 0 0 A) (F0 m 0 ls []) := by
  obtain ⟨hx, hb, hml, hown, hts, hr, hlocks, hZ⟩ := id C
  unfold j_Mo_makeNumber_0 at hf
  refine lv_iconst (v := 0) hx hb d_Mo_makeNumber_0 (by decide) ?_
  refine lv_istore (lv' := [(4, .int (0 : Int32)), (0, .ref w), (1, .long x1), (3, .int x3)]) hx hb d_Mo_makeNumber_1 hl (by decide) rfl (fun ls hl => ?_)
  exact k_Mo_makeNumber_3 C hK hA x1 x3 win won whn wpl wdn wfo wpn wbn wcn wat wnu  N (0 : Int32) wmn wmf hf _ _ hP hD hS _ (lv_sub hl [1, 2, 3, 0] rfl)
end
noncomputable abbrev f_Mo_makeNumber (N : Nat) (x1 : Int64) (x3 : Int32) (wmn : Int32) (wmf : Nat → Int32) : Option (Int32 × (Nat → Int32)) := j_Mo_makeNumber_0 N x1 x3 wmn wmf
set_option maxRecDepth 100000 in
theorem c_Mo_makeNumber {N : Nat} (l : Launch) (dC : Nat → ClassId) (dI : Nat → Nat → Nat) (cB cI cJ : ClassId) (w wm wi wo wh wd wp wb wc wl : Nat) (win : Int32) (won : Int32) (whn : Int32) (wpl : Int32) (wdn : Int32) (wfo : Int32) (wmn : Int32) (wpn : Int32) (wbn : Int32) (wcn : Int32) (wat : Int32) (wnu : Int32) (wmf : Nat → Int32) (x1 : Int64) (x3 : Int32) {wmn_z : Int32} {wmf_z : Nat → Int32} (hf : f_Mo_makeNumber N x1 x3 wmn wmf = some (wmn_z, wmf_z)) : MetV l y_Mo_makeNumber ws_Mo_makeNumber rm_Mo_makeNumber (dC, dI) vwCl [(cB, .byte), (cI, .int), (cJ, .long)] [.ref w, .long x1, .int x3] (wd_Mo_makeNumber w wm wi wo wh wd wp wb wc wl cB cI cJ win won whn wpl wdn wfo wmn wpn wbn wcn wat wnu wmf)  (wd_Mo_makeNumber w wm wi wo wh wd wp wb wc wl cB cI cJ win won whn wpl wdn wfo wmn_z wpn wbn wcn wat wnu wmf_z) 0 0 :=
  s_ofv (bytes := cd_Mo_makeNumber) (maxL := 5) (ret := none) (by decide) rfl (Nat.le_of_ble_eq_true rfl) (fun p e s m below meth c A ls C hK hA hP hD hS hl => k_Mo_makeNumber_0 C hK hA x1 x3 win won whn wpl wdn wfo wmn wpn wbn wcn wat wnu wmf hf hP hD hS (lv_sub hl [0, 1, 2] rfl))
