abbrev wd_Mo_readNext (w wi wh wb wc wl wo wd wm wp : Nat) (cB cI cJ : ClassId) (win : Int32) (won : Int32) (whn : Int32) (wpl : Int32) (wdn : Int32) (wfo : Int32) (wmn : Int32) (wpn : Int32) (wbn : Int32) (wcn : Int32) (wat : Int32) (wnu : Int32) (wif : Nat → Int32) (whf : Nat → Int32) (wbf : Nat → Int32) (wcf : Nat → Int32) (wlf : Nat → Int64) : va_W := [(w, .inr (7, [.ref wi, .ref wo, .ref wh, .int win, .int won, .int whn, .int wpl, .ref wd, .int wdn, .int wfo, .ref wm, .int wmn, .ref wp, .int wpn, .ref wb, .int wbn, .ref wc, .int wcn, .ref wl, .int wat, .int wnu])), (wi, .inl (cI, 8000, .inl wif)), (wh, .inl (cI, 8000, .inl whf)), (wb, .inl (cI, 16000, .inl wbf)), (wc, .inl (cI, 8000, .inl wcf)), (wl, .inl (cJ, 4, .inr (.inl wlf)))]
abbrev rm_Mo_readNext : Room := { frames := 4, cells := 0, slots := 0, locals := 127 }
section
variable {p : Program} {l : Launch} {e : Env} {s : State} {m : MethodId} {args : Array Value} {below : List Frame} {meth : Method} {c : Code} {dC : Nat → ClassId} {dI : Nat → Nat → Nat} {A : Nat → Prop} {cB cI cJ : ClassId} {H : Heap} {locs : List Loc} {ls : Array Slot} {N : Nat} {w wi wh wb wc wl wo wd wm wp : Nat}
noncomputable def j_Mo_readNext_133 (N : Nat) (x1 : Int32) (x2 : Int64) (win : Int32) (whn : Int32) (wpl : Int32) (wbn : Int32) (wcn : Int32) (wat : Int32) (wnu : Int32) (wif : Nat → Int32) (whf : Nat → Int32) (wbf : Nat → Int32) (wcf : Nat → Int32) (wlf : Nat → Int64)  : Option (Int32 × Int32 × Int32 × Int32 × Int32 × Int32 × (Nat → Int32) × (Nat → Int32) × (Nat → Int64)) :=
  (if (lg_cmp x2 (407708164 : Int64)) = 0 then bd9 (f_Mo_readFrame N x1 win whn wpl wbn wcn (wat + (4 : Int32)) wnu wif whf wbf wcf wlf) (fun r163 wpl_163 wbn_163 wcn_163 wat_163 wnu_163 wbf_163 wcf_163 wlf_163 => (some (r163, wpl_163, wbn_163, wcn_163, wat_163, wnu_163, wbf_163, wcf_163, wlf_163) : Option (Int32 × Int32 × Int32 × Int32 × Int32 × Int32 × (Nat → Int32) × (Nat → Int32) × (Nat → Int64)))) else bd2 (f_Mo_fault (4 : Int32) wat) (fun r147 wpl_147 => (some (r147, wpl_147, wbn, wcn, wat, wnu, wbf, wcf, wlf) : Option (Int32 × Int32 × Int32 × Int32 × Int32 × Int32 × (Nat → Int32) × (Nat → Int32) × (Nat → Int64)))))
set_option maxHeartbeats 4000000 in
set_option maxRecDepth 100000 in
theorem k_Mo_readNext_133 {r_z : Int32} {wpl_z : Int32} {wbn_z : Int32} {wcn_z : Int32} {wat_z : Int32} {wnu_z : Int32} {wbf_z : Nat → Int32} {wcf_z : Nat → Int32} {wlf_z : Nat → Int64} (C : Fx p s m args meth c cd_Mo_readNext 6 R_Mo lw_g (some .int)) (hK : va_K (dC, dI) vwCl [(cB, .byte), (cI, .int), (cJ, .long)] s) (hA : ∀ q, s.heap.size ≤ q → A q) (x1 : Int32) (x2 : Int64) (win : Int32) (won : Int32) (whn : Int32) (wpl : Int32) (wdn : Int32) (wfo : Int32) (wmn : Int32) (wpn : Int32) (wbn : Int32) (wcn : Int32) (wat : Int32) (wnu : Int32) (wif : Nat → Int32) (whf : Nat → Int32) (wbf : Nat → Int32) (wcf : Nat → Int32) (wlf : Nat → Int64)  (hf : j_Mo_readNext_133 N x1 x2 win whn wpl wbn wcn wat wnu wif whf wbf wcf wlf  = some (r_z, wpl_z, wbn_z, wcn_z, wat_z, wnu_z, wbf_z, wcf_z, wlf_z)) (hP : va_P (dC, dI) vwCl (wd_Mo_readNext w wi wh wb wc wl wo wd wm wp cB cI cJ win won whn wpl wdn wfo wmn wpn wbn wcn wat wnu wif whf wbf wcf wlf) H) (hD : va_D A (wd_Mo_readNext w wi wh wb wc wl wo wd wm wp cB cI cJ win won whn wpl wdn wfo wmn wpn wbn wcn wat wnu wif whf wbf wcf wlf)) (hS : va_S A s.heap H locs) (hl : lv_has ls 6 [(0, .ref w), (1, .int x1), (2, .long x2)]) : W p l e rm_Mo_readNext s m args below meth c H locs 0 0 (MQ below (sQi (dC, dI) vwCl [(cB, .byte), (cI, .int), (cJ, .long)] A r_z (wd_Mo_readNext w wi wh wb wc wl wo wd wm wp cB cI cJ win won whn wpl_z wdn wfo wmn wpn wbn_z wcn_z wat_z wnu_z wif whf wbf_z wcf_z wlf_z)) args s 0 0 A) (F0 m 133 ls []) := by
  obtain ⟨hx, hb, hml, hown, hts, hr, hlocks, hZ⟩ := id C
  unfold j_Mo_readNext_133 at hf
  refine lv_lload_n hx hb d_Mo_readNext_133 rfl (lv_at hl 2 rfl) ?_
  refine lv_ldc2 (v := 407708164) hx hb hown (hts _ w_444) d_Mo_readNext_134 ?_
  refine W.lcmp hx hb d_Mo_readNext_137 ?_
  refine lv_if_eq (tgt := 151) hx hb d_Mo_readNext_138 (by decide) (fun c_138 => ?_) (fun c_138 => ?_)
  · have hf := br_pos c_138 hf
    refine lv_aload_n hx hb d_Mo_readNext_151 rfl (lv_at hl 0 rfl) ?_
    refine lv_dup hx hb d_Mo_readNext_152 rfl ?_
    refine va_get (D := (dC, dI)) (ci := 7) (v := .int wat) (C := R_Mo) (T := T_Mo) (N := 21) hx hb hts w_359 hown hK hP 0 rfl rfl 19 (by decide) (hts _ w_368) (fun _ h9 => h9) rfl d_Mo_readNext_153 ?_
    refine lv_iconst (v := 4) hx hb d_Mo_readNext_156 (by decide) ?_
    refine lv_iadd hx hb d_Mo_readNext_157 ?_
    refine va_put (D := (dC, dI)) (ci := 7) (v := .int (wat + (4 : Int32))) (ty := .int) (C := R_Mo) (T := T_Mo) (N := 21) hx hb hts w_359 ty_Mo ty_Mo_ok nm_Mo hown hK hP hD hS 0 rfl rfl 19 (by decide) (hts _ w_368) (fun _ h9 => h9) rfl (by decide +kernel) rfl rfl (Nat.le_of_ble_eq_true rfl) d_Mo_readNext_158 (fun H locs hP hD hS => ?_)
    have hP : va_P (dC, dI) vwCl (wd_Mo_readNext w wi wh wb wc wl wo wd wm wp cB cI cJ win won whn wpl wdn wfo wmn wpn wbn wcn (wat + (4 : Int32)) wnu wif whf wbf wcf wlf) H := hP
    have hD : va_D A (wd_Mo_readNext w wi wh wb wc wl wo wd wm wp cB cI cJ win won whn wpl wdn wfo wmn wpn wbn wcn (wat + (4 : Int32)) wnu wif whf wbf wcf wlf) := hD
    refine lv_aload_n hx hb d_Mo_readNext_161 rfl (lv_at hl 0 rfl) ?_
    refine lv_iload_n hx hb d_Mo_readNext_162 rfl (lv_at hl 1 rfl) ?_
    obtain ⟨r163, wpl_163, wbn_163, wcn_163, wat_163, wnu_163, wbf_163, wcf_163, wlf_163, hc163, hf⟩ := bd9_some hf
    refine s_Vi (As := [.int x1]) (rest := []) (wr := []) (ws' := wd_Mo_readNext w wi wh wb wc wl wo wd wm wp cB cI cJ win won whn wpl_163 wdn wfo wmn wpn wbn_163 wcn_163 wat_163 wnu_163 wif whf wbf_163 wcf_163 wlf_163) C.call (c_Mo_readFrame l dC dI cB cI cJ w wi wh wb wc wl wo wd wm wp  win won whn wpl wdn wfo wmn wpn wbn wcn (wat + (4 : Int32)) wnu wif whf wbf wcf wlf x1 hc163) (cwV 1 hts (gd_V w_485 w_486 w_487 w_365 w_488) rfl rfl rfl ⟨rfl, hd_Mo_readFrame⟩ ⟨Nat.le_of_ble_eq_true rfl, Nat.le_of_ble_eq_true rfl⟩) rfl hl.1 rfl (Nat.le_of_ble_eq_true rfl) d_Mo_readNext_163 ⟨Nat.le_of_ble_eq_true rfl, Nat.le_of_ble_eq_true rfl⟩ hZ hK hP hD hS hA 7 0 rfl rfl [0, 1, 2, 3, 4, 5] [] [0, 1, 2, 3, 4, 5] rfl rfl rfl rfl (by decide) rfl rfl (fun H locs hP hD hS => ?_)
    cases hf
    exact s_iret hx hb hr hlocks hP hK hD hS d_Mo_readNext_166
  · have hf := br_neg c_138 hf
    refine lv_aload_n hx hb d_Mo_readNext_141 rfl (lv_at hl 0 rfl) ?_
    refine lv_iconst (v := 4) hx hb d_Mo_readNext_142 (by decide) ?_
    refine lv_aload_n hx hb d_Mo_readNext_143 rfl (lv_at hl 0 rfl) ?_
    refine va_get (D := (dC, dI)) (ci := 7) (v := .int wat) (C := R_Mo) (T := T_Mo) (N := 21) hx hb hts w_359 hown hK hP 0 rfl rfl 19 (by decide) (hts _ w_368) (fun _ h9 => h9) rfl d_Mo_readNext_144 ?_
    obtain ⟨r147, wpl_147, hc147, hf⟩ := bd2_some hf
    refine s_Vi (As := [.int (4 : Int32), .int wat]) (rest := []) (wr := [(wi, .inl (cI, 8000, .inl wif)), (wh, .inl (cI, 8000, .inl whf)), (wb, .inl (cI, 16000, .inl wbf)), (wc, .inl (cI, 8000, .inl wcf)), (wl, .inl (cJ, 4, .inr (.inl wlf)))]) (ws' := wd_Mo_readNext w wi wh wb wc wl wo wd wm wp cB cI cJ win won whn wpl_147 wdn wfo wmn wpn wbn wcn wat wnu wif whf wbf wcf wlf) C.call (c_Mo_fault l dC dI cB cI cJ w wi wo wh wd wm wp wb wc wl  win won whn wpl wdn wfo wmn wpn wbn wcn wat wnu (4 : Int32) wat hc147) (cwV 2 hts (gd_V w_468 w_469 w_470 w_365 w_471) rfl rfl rfl ⟨rfl, hd_Mo_fault⟩ ⟨Nat.le_of_ble_eq_true rfl, Nat.le_of_ble_eq_true rfl⟩) rfl hl.1 rfl (Nat.le_of_ble_eq_true rfl) d_Mo_readNext_147 ⟨Nat.le_of_ble_eq_true rfl, Nat.le_of_ble_eq_true rfl⟩ hZ hK hP hD hS hA 7 0 rfl rfl [0] [1, 2, 3, 4, 5] [5, 0, 1, 2, 3, 4] rfl rfl rfl rfl (by decide) rfl rfl (fun H locs hP hD hS => ?_)
    cases hf
    exact s_iret hx hb hr hlocks hP hK hD hS d_Mo_readNext_150
noncomputable def j_Mo_readNext_0 (N : Nat) (x1 : Int32) (win : Int32) (whn : Int32) (wpl : Int32) (wbn : Int32) (wcn : Int32) (wat : Int32) (wnu : Int32) (wif : Nat → Int32) (whf : Nat → Int32) (wbf : Nat → Int32) (wcf : Nat → Int32) (wlf : Nat → Int64)  : Option (Int32 × Int32 × Int32 × Int32 × Int32 × Int32 × (Nat → Int32) × (Nat → Int32) × (Nat → Int64)) :=
  bd1 (f_Mo_has (4 : Int32) win wat) (fun r2 => (if r2 = 0 then bd2 (f_Mo_fault (1 : Int32) win) (fun r14 wpl_14 => (some (r14, wpl_14, wbn, wcn, wat, wnu, wbf, wcf, wlf) : Option (Int32 × Int32 × Int32 × Int32 × Int32 × Int32 × (Nat → Int32) × (Nat → Int32) × (Nat → Int64)))) else bd1 (f_Mo_numberAt N wat (4 : Int32) wif) (fun r24 => (if (lg_cmp r24 (407710288 : Int64)) < 0 then (j_Mo_readNext_133 N x1 r24 win whn wpl wbn wcn wat wnu wif whf wbf wcf wlf ) else (if 0 < (lg_cmp r24 (407710303 : Int64)) then (j_Mo_readNext_133 N x1 r24 win whn wpl wbn wcn wat wnu wif whf wbf wcf wlf ) else bd1 (f_Mo_has (4 : Int32) win (wat + (4 : Int32))) (fun r56 => (if r56 = 0 then bd2 (f_Mo_fault (1 : Int32) win) (fun r68 wpl_68 => (some (r68, wpl_68, wbn, wcn, (wat + (4 : Int32)), wnu, wbf, wcf, wlf) : Option (Int32 × Int32 × Int32 × Int32 × Int32 × Int32 × (Nat → Int32) × (Nat → Int32) × (Nat → Int64)))) else bd1 (f_Mo_numberAt N (wat + (4 : Int32)) (4 : Int32) wif) (fun r78 => (if (lg_cmp r78 ((win - ((wat + (4 : Int32)) + (4 : Int32))).toInt64)) ≤ 0 then (some ((0 : Int32), wpl, wbn, wcn, (((wat + (4 : Int32)) + (4 : Int32)) + (r78.toInt32)), wnu, wbf, wcf, wlf) : Option (Int32 × Int32 × Int32 × Int32 × Int32 × Int32 × (Nat → Int32) × (Nat → Int32) × (Nat → Int64))) else bd2 (f_Mo_fault (1 : Int32) win) (fun r115 wpl_115 => (some (r115, wpl_115, wbn, wcn, ((wat + (4 : Int32)) + (4 : Int32)), wnu, wbf, wcf, wlf) : Option (Int32 × Int32 × Int32 × Int32 × Int32 × Int32 × (Nat → Int32) × (Nat → Int32) × (Nat → Int64)))))))))))))
set_option maxHeartbeats 4000000 in
set_option maxRecDepth 100000 in
theorem k_Mo_readNext_0 {r_z : Int32} {wpl_z : Int32} {wbn_z : Int32} {wcn_z : Int32} {wat_z : Int32} {wnu_z : Int32} {wbf_z : Nat → Int32} {wcf_z : Nat → Int32} {wlf_z : Nat → Int64} (C : Fx p s m args meth c cd_Mo_readNext 6 R_Mo lw_g (some .int)) (hK : va_K (dC, dI) vwCl [(cB, .byte), (cI, .int), (cJ, .long)] s) (hA : ∀ q, s.heap.size ≤ q → A q) (x1 : Int32) (win : Int32) (won : Int32) (whn : Int32) (wpl : Int32) (wdn : Int32) (wfo : Int32) (wmn : Int32) (wpn : Int32) (wbn : Int32) (wcn : Int32) (wat : Int32) (wnu : Int32) (wif : Nat → Int32) (whf : Nat → Int32) (wbf : Nat → Int32) (wcf : Nat → Int32) (wlf : Nat → Int64)  (hf : j_Mo_readNext_0 N x1 win whn wpl wbn wcn wat wnu wif whf wbf wcf wlf  = some (r_z, wpl_z, wbn_z, wcn_z, wat_z, wnu_z, wbf_z, wcf_z, wlf_z)) (hP : va_P (dC, dI) vwCl (wd_Mo_readNext w wi wh wb wc wl wo wd wm wp cB cI cJ win won whn wpl wdn wfo wmn wpn wbn wcn wat wnu wif whf wbf wcf wlf) H) (hD : va_D A (wd_Mo_readNext w wi wh wb wc wl wo wd wm wp cB cI cJ win won whn wpl wdn wfo wmn wpn wbn wcn wat wnu wif whf wbf wcf wlf)) (hS : va_S A s.heap H locs) (hl : lv_has ls 6 [(0, .ref w), (1, .int x1)]) : W p l e rm_Mo_readNext s m args below meth c H locs 0 0 (MQ below (sQi (dC, dI) vwCl [(cB, .byte), (cI, .int), (cJ, .long)] A r_z (wd_Mo_readNext w wi wh wb wc wl wo wd wm wp cB cI cJ win won whn wpl_z wdn wfo wmn wpn wbn_z wcn_z wat_z wnu_z wif whf wbf_z wcf_z wlf_z)) args s 0 0 A) (F0 m 0 ls []) := by
  obtain ⟨hx, hb, hml, hown, hts, hr, hlocks, hZ⟩ := id C
  unfold j_Mo_readNext_0 at hf
  refine lv_aload_n hx hb d_Mo_readNext_0 rfl (lv_at hl 0 rfl) ?_
  refine lv_iconst (v := 4) hx hb d_Mo_readNext_1 (by decide) ?_
  obtain ⟨r2, hc2, hf⟩ := bd1_some hf
  refine s_Vi (As := [.int (4 : Int32)]) (rest := []) (wr := [(wi, .inl (cI, 8000, .inl wif)), (wh, .inl (cI, 8000, .inl whf)), (wb, .inl (cI, 16000, .inl wbf)), (wc, .inl (cI, 8000, .inl wcf)), (wl, .inl (cJ, 4, .inr (.inl wlf)))]) (ws' := wd_Mo_readNext w wi wh wb wc wl wo wd wm wp cB cI cJ win won whn wpl wdn wfo wmn wpn wbn wcn wat wnu wif whf wbf wcf wlf) C.call (c_Mo_has l dC dI cB cI cJ w wi wo wh wd wm wp wb wc wl  win won whn wpl wdn wfo wmn wpn wbn wcn wat wnu (4 : Int32) hc2) (cwV 1 hts (gd_V w_472 w_473 w_474 w_365 w_475) rfl rfl rfl ⟨rfl, hd_Mo_has⟩ ⟨Nat.le_of_ble_eq_true rfl, Nat.le_of_ble_eq_true rfl⟩) rfl hl.1 rfl (Nat.le_of_ble_eq_true rfl) d_Mo_readNext_2 ⟨Nat.le_of_ble_eq_true rfl, Nat.le_of_ble_eq_true rfl⟩ hZ hK hP hD hS hA 7 0 rfl rfl [0] [1, 2, 3, 4, 5] [5, 0, 1, 2, 3, 4] rfl rfl rfl rfl (by decide) rfl rfl (fun H locs hP hD hS => ?_)
  refine lv_if_ne (tgt := 18) hx hb d_Mo_readNext_5 (by decide) (fun c_5 => ?_) (fun c_5 => ?_)
  · have hf := br_neg c_5 hf
    refine lv_aload_n hx hb d_Mo_readNext_18 rfl (lv_at hl 0 rfl) ?_
    refine lv_aload_n hx hb d_Mo_readNext_19 rfl (lv_at hl 0 rfl) ?_
    refine va_get (D := (dC, dI)) (ci := 7) (v := .int wat) (C := R_Mo) (T := T_Mo) (N := 21) hx hb hts w_359 hown hK hP 0 rfl rfl 19 (by decide) (hts _ w_368) (fun _ h9 => h9) rfl d_Mo_readNext_20 ?_
    refine lv_iconst (v := 4) hx hb d_Mo_readNext_23 (by decide) ?_
    obtain ⟨r24, hc24, hf⟩ := bd1_some hf
    refine s_Vl (As := [.int wat, .int (4 : Int32)]) (rest := []) (wr := [(wh, .inl (cI, 8000, .inl whf)), (wb, .inl (cI, 16000, .inl wbf)), (wc, .inl (cI, 8000, .inl wcf)), (wl, .inl (cJ, 4, .inr (.inl wlf)))]) (ws' := wd_Mo_readNext w wi wh wb wc wl wo wd wm wp cB cI cJ win won whn wpl wdn wfo wmn wpn wbn wcn wat wnu wif whf wbf wcf wlf) C.call (c_Mo_numberAt l dC dI cB cI cJ w wi wo wh wd wm wp wb wc wl  win won whn wpl wdn wfo wmn wpn wbn wcn wat wnu wif wat (4 : Int32) hc24) (cwV 2 hts (gd_V w_476 w_477 w_478 w_365 w_479) rfl rfl rfl ⟨rfl, hd_Mo_numberAt⟩ ⟨Nat.le_of_ble_eq_true rfl, Nat.le_of_ble_eq_true rfl⟩) rfl hl.1 rfl (Nat.le_of_ble_eq_true rfl) d_Mo_readNext_24 ⟨Nat.le_of_ble_eq_true rfl, Nat.le_of_ble_eq_true rfl⟩ hZ hK hP hD hS hA 7 0 rfl rfl [0, 1] [2, 3, 4, 5] [4, 5, 0, 1, 2, 3] rfl rfl rfl rfl (by decide) rfl rfl (fun H locs hP hD hS => ?_)
    refine lv_lstore_n (lv' := [(2, .long r24), (0, .ref w), (1, .int x1)]) hx hb d_Mo_readNext_27 rfl hl (by decide) rfl (fun ls hl => ?_)
    refine lv_lload_n hx hb d_Mo_readNext_28 rfl (lv_at hl 0 rfl) ?_
    refine lv_ldc2 (v := 407710288) hx hb hown (hts _ w_484) d_Mo_readNext_29 ?_
    refine W.lcmp hx hb d_Mo_readNext_32 ?_
    refine lv_if_lt (tgt := 133) hx hb d_Mo_readNext_33 (by decide) (fun c_33 => ?_) (fun c_33 => ?_)
    · have hf := br_pos c_33 hf
      exact k_Mo_readNext_133 C hK hA x1 r24 win won whn wpl wdn wfo wmn wpn wbn wcn wat wnu wif whf wbf wcf wlf  hf hP hD hS (lv_sub hl [1, 2, 0] rfl)
    · have hf := br_neg c_33 hf
      refine lv_lload_n hx hb d_Mo_readNext_36 rfl (lv_at hl 0 rfl) ?_
      refine lv_ldc2 (v := 407710303) hx hb hown (hts _ w_489) d_Mo_readNext_37 ?_
      refine W.lcmp hx hb d_Mo_readNext_40 ?_
      refine lv_if_gt (tgt := 133) hx hb d_Mo_readNext_41 (by decide) (fun c_41 => ?_) (fun c_41 => ?_)
      · have hf := br_pos c_41 hf
        exact k_Mo_readNext_133 C hK hA x1 r24 win won whn wpl wdn wfo wmn wpn wbn wcn wat wnu wif whf wbf wcf wlf  hf hP hD hS (lv_sub hl [1, 2, 0] rfl)
      · have hf := br_neg c_41 hf
        refine lv_aload_n hx hb d_Mo_readNext_44 rfl (lv_at hl 1 rfl) ?_
        refine lv_dup hx hb d_Mo_readNext_45 rfl ?_
        refine va_get (D := (dC, dI)) (ci := 7) (v := .int wat) (C := R_Mo) (T := T_Mo) (N := 21) hx hb hts w_359 hown hK hP 0 rfl rfl 19 (by decide) (hts _ w_368) (fun _ h9 => h9) rfl d_Mo_readNext_46 ?_
        refine lv_iconst (v := 4) hx hb d_Mo_readNext_49 (by decide) ?_
        refine lv_iadd hx hb d_Mo_readNext_50 ?_
        refine va_put (D := (dC, dI)) (ci := 7) (v := .int (wat + (4 : Int32))) (ty := .int) (C := R_Mo) (T := T_Mo) (N := 21) hx hb hts w_359 ty_Mo ty_Mo_ok nm_Mo hown hK hP hD hS 0 rfl rfl 19 (by decide) (hts _ w_368) (fun _ h9 => h9) rfl (by decide +kernel) rfl rfl (Nat.le_of_ble_eq_true rfl) d_Mo_readNext_51 (fun H locs hP hD hS => ?_)
        have hP : va_P (dC, dI) vwCl (wd_Mo_readNext w wi wh wb wc wl wo wd wm wp cB cI cJ win won whn wpl wdn wfo wmn wpn wbn wcn (wat + (4 : Int32)) wnu wif whf wbf wcf wlf) H := hP
        have hD : va_D A (wd_Mo_readNext w wi wh wb wc wl wo wd wm wp cB cI cJ win won whn wpl wdn wfo wmn wpn wbn wcn (wat + (4 : Int32)) wnu wif whf wbf wcf wlf) := hD
        refine lv_aload_n hx hb d_Mo_readNext_54 rfl (lv_at hl 1 rfl) ?_
        refine lv_iconst (v := 4) hx hb d_Mo_readNext_55 (by decide) ?_
        obtain ⟨r56, hc56, hf⟩ := bd1_some hf
        refine s_Vi (As := [.int (4 : Int32)]) (rest := []) (wr := [(wi, .inl (cI, 8000, .inl wif)), (wh, .inl (cI, 8000, .inl whf)), (wb, .inl (cI, 16000, .inl wbf)), (wc, .inl (cI, 8000, .inl wcf)), (wl, .inl (cJ, 4, .inr (.inl wlf)))]) (ws' := wd_Mo_readNext w wi wh wb wc wl wo wd wm wp cB cI cJ win won whn wpl wdn wfo wmn wpn wbn wcn (wat + (4 : Int32)) wnu wif whf wbf wcf wlf) C.call (c_Mo_has l dC dI cB cI cJ w wi wo wh wd wm wp wb wc wl  win won whn wpl wdn wfo wmn wpn wbn wcn (wat + (4 : Int32)) wnu (4 : Int32) hc56) (cwV 1 hts (gd_V w_472 w_473 w_474 w_365 w_475) rfl rfl rfl ⟨rfl, hd_Mo_has⟩ ⟨Nat.le_of_ble_eq_true rfl, Nat.le_of_ble_eq_true rfl⟩) rfl hl.1 rfl (Nat.le_of_ble_eq_true rfl) d_Mo_readNext_56 ⟨Nat.le_of_ble_eq_true rfl, Nat.le_of_ble_eq_true rfl⟩ hZ hK hP hD hS hA 7 0 rfl rfl [0] [1, 2, 3, 4, 5] [5, 0, 1, 2, 3, 4] rfl rfl rfl rfl (by decide) rfl rfl (fun H locs hP hD hS => ?_)
        refine lv_if_ne (tgt := 72) hx hb d_Mo_readNext_59 (by decide) (fun c_59 => ?_) (fun c_59 => ?_)
        · have hf := br_neg c_59 hf
          refine lv_aload_n hx hb d_Mo_readNext_72 rfl (lv_at hl 1 rfl) ?_
          refine lv_aload_n hx hb d_Mo_readNext_73 rfl (lv_at hl 1 rfl) ?_
          refine va_get (D := (dC, dI)) (ci := 7) (v := .int (wat + (4 : Int32))) (C := R_Mo) (T := T_Mo) (N := 21) hx hb hts w_359 hown hK hP 0 rfl rfl 19 (by decide) (hts _ w_368) (fun _ h9 => h9) rfl d_Mo_readNext_74 ?_
          refine lv_iconst (v := 4) hx hb d_Mo_readNext_77 (by decide) ?_
          obtain ⟨r78, hc78, hf⟩ := bd1_some hf
          refine s_Vl (As := [.int (wat + (4 : Int32)), .int (4 : Int32)]) (rest := []) (wr := [(wh, .inl (cI, 8000, .inl whf)), (wb, .inl (cI, 16000, .inl wbf)), (wc, .inl (cI, 8000, .inl wcf)), (wl, .inl (cJ, 4, .inr (.inl wlf)))]) (ws' := wd_Mo_readNext w wi wh wb wc wl wo wd wm wp cB cI cJ win won whn wpl wdn wfo wmn wpn wbn wcn (wat + (4 : Int32)) wnu wif whf wbf wcf wlf) C.call (c_Mo_numberAt l dC dI cB cI cJ w wi wo wh wd wm wp wb wc wl  win won whn wpl wdn wfo wmn wpn wbn wcn (wat + (4 : Int32)) wnu wif (wat + (4 : Int32)) (4 : Int32) hc78) (cwV 2 hts (gd_V w_476 w_477 w_478 w_365 w_479) rfl rfl rfl ⟨rfl, hd_Mo_numberAt⟩ ⟨Nat.le_of_ble_eq_true rfl, Nat.le_of_ble_eq_true rfl⟩) rfl hl.1 rfl (Nat.le_of_ble_eq_true rfl) d_Mo_readNext_78 ⟨Nat.le_of_ble_eq_true rfl, Nat.le_of_ble_eq_true rfl⟩ hZ hK hP hD hS hA 7 0 rfl rfl [0, 1] [2, 3, 4, 5] [4, 5, 0, 1, 2, 3] rfl rfl rfl rfl (by decide) rfl rfl (fun H locs hP hD hS => ?_)
          refine lv_lstore (lv' := [(4, .long r78), (2, .long r24), (0, .ref w), (1, .int x1)]) hx hb d_Mo_readNext_81 hl (by decide) rfl (fun ls hl => ?_)
          refine lv_aload_n hx hb d_Mo_readNext_83 rfl (lv_at hl 2 rfl) ?_
          refine lv_dup hx hb d_Mo_readNext_84 rfl ?_
          refine va_get (D := (dC, dI)) (ci := 7) (v := .int (wat + (4 : Int32))) (C := R_Mo) (T := T_Mo) (N := 21) hx hb hts w_359 hown hK hP 0 rfl rfl 19 (by decide) (hts _ w_368) (fun _ h9 => h9) rfl d_Mo_readNext_85 ?_
          refine lv_iconst (v := 4) hx hb d_Mo_readNext_88 (by decide) ?_
          refine lv_iadd hx hb d_Mo_readNext_89 ?_
          refine va_put (D := (dC, dI)) (ci := 7) (v := .int ((wat + (4 : Int32)) + (4 : Int32))) (ty := .int) (C := R_Mo) (T := T_Mo) (N := 21) hx hb hts w_359 ty_Mo ty_Mo_ok nm_Mo hown hK hP hD hS 0 rfl rfl 19 (by decide) (hts _ w_368) (fun _ h9 => h9) rfl (by decide +kernel) rfl rfl (Nat.le_of_ble_eq_true rfl) d_Mo_readNext_90 (fun H locs hP hD hS => ?_)
          have hP : va_P (dC, dI) vwCl (wd_Mo_readNext w wi wh wb wc wl wo wd wm wp cB cI cJ win won whn wpl wdn wfo wmn wpn wbn wcn ((wat + (4 : Int32)) + (4 : Int32)) wnu wif whf wbf wcf wlf) H := hP
          have hD : va_D A (wd_Mo_readNext w wi wh wb wc wl wo wd wm wp cB cI cJ win won whn wpl wdn wfo wmn wpn wbn wcn ((wat + (4 : Int32)) + (4 : Int32)) wnu wif whf wbf wcf wlf) := hD
          refine lv_lload hx hb d_Mo_readNext_93 (lv_at hl 0 rfl) ?_
          refine lv_aload_n hx hb d_Mo_readNext_95 rfl (lv_at hl 2 rfl) ?_
          refine va_get (D := (dC, dI)) (ci := 7) (v := .int win) (C := R_Mo) (T := T_Mo) (N := 21) hx hb hts w_359 hown hK hP 0 rfl rfl 3 (by decide) (hts _ w_370) (fun _ h9 => h9) rfl d_Mo_readNext_96 ?_
          refine lv_aload_n hx hb d_Mo_readNext_99 rfl (lv_at hl 2 rfl) ?_
          refine va_get (D := (dC, dI)) (ci := 7) (v := .int ((wat + (4 : Int32)) + (4 : Int32))) (C := R_Mo) (T := T_Mo) (N := 21) hx hb hts w_359 hown hK hP 0 rfl rfl 19 (by decide) (hts _ w_368) (fun _ h9 => h9) rfl d_Mo_readNext_100 ?_
          refine lv_isub hx hb d_Mo_readNext_103 ?_
          refine lv_i2l (v := ((win - ((wat + (4 : Int32)) + (4 : Int32))).toInt64)) hx hb d_Mo_readNext_104 rfl ?_
          refine W.lcmp hx hb d_Mo_readNext_105 ?_
          refine lv_if_le (tgt := 119) hx hb d_Mo_readNext_106 (by decide) (fun c_106 => ?_) (fun c_106 => ?_)
          · have hf := br_pos c_106 hf
            refine lv_aload_n hx hb d_Mo_readNext_119 rfl (lv_at hl 2 rfl) ?_
            refine lv_dup hx hb d_Mo_readNext_120 rfl ?_
            refine va_get (D := (dC, dI)) (ci := 7) (v := .int ((wat + (4 : Int32)) + (4 : Int32))) (C := R_Mo) (T := T_Mo) (N := 21) hx hb hts w_359 hown hK hP 0 rfl rfl 19 (by decide) (hts _ w_368) (fun _ h9 => h9) rfl d_Mo_readNext_121 ?_
            refine lv_lload hx hb d_Mo_readNext_124 (lv_at hl 0 rfl) ?_
            refine lv_l2i (v := (r78.toInt32)) hx hb d_Mo_readNext_126 rfl ?_
            refine lv_iadd hx hb d_Mo_readNext_127 ?_
            refine va_put (D := (dC, dI)) (ci := 7) (v := .int (((wat + (4 : Int32)) + (4 : Int32)) + (r78.toInt32))) (ty := .int) (C := R_Mo) (T := T_Mo) (N := 21) hx hb hts w_359 ty_Mo ty_Mo_ok nm_Mo hown hK hP hD hS 0 rfl rfl 19 (by decide) (hts _ w_368) (fun _ h9 => h9) rfl (by decide +kernel) rfl rfl (Nat.le_of_ble_eq_true rfl) d_Mo_readNext_128 (fun H locs hP hD hS => ?_)
            have hP : va_P (dC, dI) vwCl (wd_Mo_readNext w wi wh wb wc wl wo wd wm wp cB cI cJ win won whn wpl wdn wfo wmn wpn wbn wcn (((wat + (4 : Int32)) + (4 : Int32)) + (r78.toInt32)) wnu wif whf wbf wcf wlf) H := hP
            have hD : va_D A (wd_Mo_readNext w wi wh wb wc wl wo wd wm wp cB cI cJ win won whn wpl wdn wfo wmn wpn wbn wcn (((wat + (4 : Int32)) + (4 : Int32)) + (r78.toInt32)) wnu wif whf wbf wcf wlf) := hD
            refine lv_iconst (v := 0) hx hb d_Mo_readNext_131 (by decide) ?_
            cases hf
            exact s_iret hx hb hr hlocks hP hK hD hS d_Mo_readNext_132
          · have hf := br_neg c_106 hf
            refine lv_aload_n hx hb d_Mo_readNext_109 rfl (lv_at hl 2 rfl) ?_
            refine lv_iconst (v := 1) hx hb d_Mo_readNext_110 (by decide) ?_
            refine lv_aload_n hx hb d_Mo_readNext_111 rfl (lv_at hl 2 rfl) ?_
            refine va_get (D := (dC, dI)) (ci := 7) (v := .int win) (C := R_Mo) (T := T_Mo) (N := 21) hx hb hts w_359 hown hK hP 0 rfl rfl 3 (by decide) (hts _ w_370) (fun _ h9 => h9) rfl d_Mo_readNext_112 ?_
            obtain ⟨r115, wpl_115, hc115, hf⟩ := bd2_some hf
            refine s_Vi (As := [.int (1 : Int32), .int win]) (rest := []) (wr := [(wi, .inl (cI, 8000, .inl wif)), (wh, .inl (cI, 8000, .inl whf)), (wb, .inl (cI, 16000, .inl wbf)), (wc, .inl (cI, 8000, .inl wcf)), (wl, .inl (cJ, 4, .inr (.inl wlf)))]) (ws' := wd_Mo_readNext w wi wh wb wc wl wo wd wm wp cB cI cJ win won whn wpl_115 wdn wfo wmn wpn wbn wcn ((wat + (4 : Int32)) + (4 : Int32)) wnu wif whf wbf wcf wlf) C.call (c_Mo_fault l dC dI cB cI cJ w wi wo wh wd wm wp wb wc wl  win won whn wpl wdn wfo wmn wpn wbn wcn ((wat + (4 : Int32)) + (4 : Int32)) wnu (1 : Int32) win hc115) (cwV 2 hts (gd_V w_468 w_469 w_470 w_365 w_471) rfl rfl rfl ⟨rfl, hd_Mo_fault⟩ ⟨Nat.le_of_ble_eq_true rfl, Nat.le_of_ble_eq_true rfl⟩) rfl hl.1 rfl (Nat.le_of_ble_eq_true rfl) d_Mo_readNext_115 ⟨Nat.le_of_ble_eq_true rfl, Nat.le_of_ble_eq_true rfl⟩ hZ hK hP hD hS hA 7 0 rfl rfl [0] [1, 2, 3, 4, 5] [5, 0, 1, 2, 3, 4] rfl rfl rfl rfl (by decide) rfl rfl (fun H locs hP hD hS => ?_)
            cases hf
            exact s_iret hx hb hr hlocks hP hK hD hS d_Mo_readNext_118
        · have hf := br_pos c_59 hf
          refine lv_aload_n hx hb d_Mo_readNext_62 rfl (lv_at hl 1 rfl) ?_
          refine lv_iconst (v := 1) hx hb d_Mo_readNext_63 (by decide) ?_
          refine lv_aload_n hx hb d_Mo_readNext_64 rfl (lv_at hl 1 rfl) ?_
          refine va_get (D := (dC, dI)) (ci := 7) (v := .int win) (C := R_Mo) (T := T_Mo) (N := 21) hx hb hts w_359 hown hK hP 0 rfl rfl 3 (by decide) (hts _ w_370) (fun _ h9 => h9) rfl d_Mo_readNext_65 ?_
          obtain ⟨r68, wpl_68, hc68, hf⟩ := bd2_some hf
          refine s_Vi (As := [.int (1 : Int32), .int win]) (rest := []) (wr := [(wi, .inl (cI, 8000, .inl wif)), (wh, .inl (cI, 8000, .inl whf)), (wb, .inl (cI, 16000, .inl wbf)), (wc, .inl (cI, 8000, .inl wcf)), (wl, .inl (cJ, 4, .inr (.inl wlf)))]) (ws' := wd_Mo_readNext w wi wh wb wc wl wo wd wm wp cB cI cJ win won whn wpl_68 wdn wfo wmn wpn wbn wcn (wat + (4 : Int32)) wnu wif whf wbf wcf wlf) C.call (c_Mo_fault l dC dI cB cI cJ w wi wo wh wd wm wp wb wc wl  win won whn wpl wdn wfo wmn wpn wbn wcn (wat + (4 : Int32)) wnu (1 : Int32) win hc68) (cwV 2 hts (gd_V w_468 w_469 w_470 w_365 w_471) rfl rfl rfl ⟨rfl, hd_Mo_fault⟩ ⟨Nat.le_of_ble_eq_true rfl, Nat.le_of_ble_eq_true rfl⟩) rfl hl.1 rfl (Nat.le_of_ble_eq_true rfl) d_Mo_readNext_68 ⟨Nat.le_of_ble_eq_true rfl, Nat.le_of_ble_eq_true rfl⟩ hZ hK hP hD hS hA 7 0 rfl rfl [0] [1, 2, 3, 4, 5] [5, 0, 1, 2, 3, 4] rfl rfl rfl rfl (by decide) rfl rfl (fun H locs hP hD hS => ?_)
          cases hf
          exact s_iret hx hb hr hlocks hP hK hD hS d_Mo_readNext_71
  · have hf := br_pos c_5 hf
    refine lv_aload_n hx hb d_Mo_readNext_8 rfl (lv_at hl 0 rfl) ?_
    refine lv_iconst (v := 1) hx hb d_Mo_readNext_9 (by decide) ?_
    refine lv_aload_n hx hb d_Mo_readNext_10 rfl (lv_at hl 0 rfl) ?_
    refine va_get (D := (dC, dI)) (ci := 7) (v := .int win) (C := R_Mo) (T := T_Mo) (N := 21) hx hb hts w_359 hown hK hP 0 rfl rfl 3 (by decide) (hts _ w_370) (fun _ h9 => h9) rfl d_Mo_readNext_11 ?_
    obtain ⟨r14, wpl_14, hc14, hf⟩ := bd2_some hf
    refine s_Vi (As := [.int (1 : Int32), .int win]) (rest := []) (wr := [(wi, .inl (cI, 8000, .inl wif)), (wh, .inl (cI, 8000, .inl whf)), (wb, .inl (cI, 16000, .inl wbf)), (wc, .inl (cI, 8000, .inl wcf)), (wl, .inl (cJ, 4, .inr (.inl wlf)))]) (ws' := wd_Mo_readNext w wi wh wb wc wl wo wd wm wp cB cI cJ win won whn wpl_14 wdn wfo wmn wpn wbn wcn wat wnu wif whf wbf wcf wlf) C.call (c_Mo_fault l dC dI cB cI cJ w wi wo wh wd wm wp wb wc wl  win won whn wpl wdn wfo wmn wpn wbn wcn wat wnu (1 : Int32) win hc14) (cwV 2 hts (gd_V w_468 w_469 w_470 w_365 w_471) rfl rfl rfl ⟨rfl, hd_Mo_fault⟩ ⟨Nat.le_of_ble_eq_true rfl, Nat.le_of_ble_eq_true rfl⟩) rfl hl.1 rfl (Nat.le_of_ble_eq_true rfl) d_Mo_readNext_14 ⟨Nat.le_of_ble_eq_true rfl, Nat.le_of_ble_eq_true rfl⟩ hZ hK hP hD hS hA 7 0 rfl rfl [0] [1, 2, 3, 4, 5] [5, 0, 1, 2, 3, 4] rfl rfl rfl rfl (by decide) rfl rfl (fun H locs hP hD hS => ?_)
    cases hf
    exact s_iret hx hb hr hlocks hP hK hD hS d_Mo_readNext_17
end
noncomputable abbrev f_Mo_readNext (N : Nat) (x1 : Int32) (win : Int32) (whn : Int32) (wpl : Int32) (wbn : Int32) (wcn : Int32) (wat : Int32) (wnu : Int32) (wif : Nat → Int32) (whf : Nat → Int32) (wbf : Nat → Int32) (wcf : Nat → Int32) (wlf : Nat → Int64) : Option (Int32 × Int32 × Int32 × Int32 × Int32 × Int32 × (Nat → Int32) × (Nat → Int32) × (Nat → Int64)) := j_Mo_readNext_0 N x1 win whn wpl wbn wcn wat wnu wif whf wbf wcf wlf
set_option maxRecDepth 100000 in
theorem c_Mo_readNext {N : Nat} (l : Launch) (dC : Nat → ClassId) (dI : Nat → Nat → Nat) (cB cI cJ : ClassId) (w wi wh wb wc wl wo wd wm wp : Nat) (win : Int32) (won : Int32) (whn : Int32) (wpl : Int32) (wdn : Int32) (wfo : Int32) (wmn : Int32) (wpn : Int32) (wbn : Int32) (wcn : Int32) (wat : Int32) (wnu : Int32) (wif : Nat → Int32) (whf : Nat → Int32) (wbf : Nat → Int32) (wcf : Nat → Int32) (wlf : Nat → Int64) (x1 : Int32) {r_z : Int32} {wpl_z : Int32} {wbn_z : Int32} {wcn_z : Int32} {wat_z : Int32} {wnu_z : Int32} {wbf_z : Nat → Int32} {wcf_z : Nat → Int32} {wlf_z : Nat → Int64} (hf : f_Mo_readNext N x1 win whn wpl wbn wcn wat wnu wif whf wbf wcf wlf = some (r_z, wpl_z, wbn_z, wcn_z, wat_z, wnu_z, wbf_z, wcf_z, wlf_z)) : MetI l y_Mo_readNext ws_Mo_readNext rm_Mo_readNext (dC, dI) vwCl [(cB, .byte), (cI, .int), (cJ, .long)] [.ref w, .int x1] (wd_Mo_readNext w wi wh wb wc wl wo wd wm wp cB cI cJ win won whn wpl wdn wfo wmn wpn wbn wcn wat wnu wif whf wbf wcf wlf) r_z (wd_Mo_readNext w wi wh wb wc wl wo wd wm wp cB cI cJ win won whn wpl_z wdn wfo wmn wpn wbn_z wcn_z wat_z wnu_z wif whf wbf_z wcf_z wlf_z) 0 0 :=
  s_ofi (bytes := cd_Mo_readNext) (maxL := 6) (ret := (some .int)) (by decide) rfl (Nat.le_of_ble_eq_true rfl) (fun p e s m below meth c A ls C hK hA hP hD hS hl => k_Mo_readNext_0 C hK hA x1 win won whn wpl wdn wfo wmn wpn wbn wcn wat wnu wif whf wbf wcf wlf hf hP hD hS (lv_sub hl [0, 1] rfl))

abbrev wd_Mo_remember (w wi wh wo wd wm wp wb wc wl : Nat) (cB cI cJ : ClassId) (win : Int32) (won : Int32) (whn : Int32) (wpl : Int32) (wdn : Int32) (wfo : Int32) (wmn : Int32) (wpn : Int32) (wbn : Int32) (wcn : Int32) (wat : Int32) (wnu : Int32) (wif : Nat → Int32) (whf : Nat → Int32) : va_W := [(w, .inr (7, [.ref wi, .ref wo, .ref wh, .int win, .int won, .int whn, .int wpl, .ref wd, .int wdn, .int wfo, .ref wm, .int wmn, .ref wp, .int wpn, .ref wb, .int wbn, .ref wc, .int wcn, .ref wl, .int wat, .int wnu])), (wi, .inl (cI, 8000, .inl wif)), (wh, .inl (cI, 8000, .inl whf))]
abbrev rm_Mo_remember : Room := { frames := 0, cells := 0, slots := 0, locals := 0 }
section
variable {p : Program} {l : Launch} {e : Env} {s : State} {m : MethodId} {args : Array Value} {below : List Frame} {meth : Method} {c : Code} {dC : Nat → ClassId} {dI : Nat → Nat → Nat} {A : Nat → Prop} {cB cI cJ : ClassId} {H : Heap} {locs : List Loc} {ls : Array Slot} {N : Nat} {w wi wh wo wd wm wp wb wc wl : Nat}
noncomputable def b_Mo_remember_2 (win : Int32) (wif : Nat → Int32)  (kh2 : Int32 → (Nat → Int32) → Option (Int32 × Int32 × (Nat → Int32))) (x1 : Int32) (whf : Nat → Int32) : Option (Int32 × Int32 × (Nat → Int32)) :=
  (if win ≤ x1 then (some ((0 : Int32), win, whf) : Option (Int32 × Int32 × (Nat → Int32))) else as_ (vp_in x1 8000) (as_ (vp_in x1 8000) ((kh2 (x1 + 1) (upd whf x1.toNatClampNeg (wif x1.toNatClampNeg))))))
set_option maxHeartbeats 4000000 in
set_option maxRecDepth 100000 in
theorem k_Mo_remember_2 {win_z : Int32} {whn_z : Int32} {whf_z : Nat → Int32} (C : Fx p s m args meth c cd_Mo_remember 2 R_Mo lw_g none) (hK : va_K (dC, dI) vwCl [(cB, .byte), (cI, .int), (cJ, .long)] s) (hA : ∀ q, s.heap.size ≤ q → A q) (win : Int32) (won : Int32) (whn : Int32) (wpl : Int32) (wdn : Int32) (wfo : Int32) (wmn : Int32) (wpn : Int32) (wbn : Int32) (wcn : Int32) (wat : Int32) (wnu : Int32) (wif : Nat → Int32)  : ∀ (n : Nat) (x1 : Int32) (whf : Nat → Int32), loop2 (b_Mo_remember_2 win wif ) n x1 whf = some (win_z, whn_z, whf_z) → ∀ (H : Heap) (locs : List Loc), va_P (dC, dI) vwCl (wd_Mo_remember w wi wh wo wd wm wp wb wc wl cB cI cJ win won whn wpl wdn wfo wmn wpn wbn wcn wat wnu wif whf) H → va_D A (wd_Mo_remember w wi wh wo wd wm wp wb wc wl cB cI cJ win won whn wpl wdn wfo wmn wpn wbn wcn wat wnu wif whf) → va_S A s.heap H locs → ∀ (ls : Array Slot), lv_has ls 2 [(0, .ref w), (1, .int x1)] → W p l e rm_Mo_remember s m args below meth c H locs 0 0 (MQ below (sQv (dC, dI) vwCl [(cB, .byte), (cI, .int), (cJ, .long)] A (wd_Mo_remember w wi wh wo wd wm wp wb wc wl cB cI cJ win_z won whn_z wpl wdn wfo wmn wpn wbn wcn wat wnu wif whf_z)) args s 0 0 A) (F0 m 2 ls []) := by
  obtain ⟨hx, hb, hml, hown, hts, hr, hlocks, hZ⟩ := id C
  intro n
  induction n with
  | zero => intro x1 whf hf; cases hf
  | succ n ih2 =>
    intro x1 whf hf H locs hP hD hS ls hl
    have hf : b_Mo_remember_2 win wif  (loop2 (b_Mo_remember_2 win wif ) n) x1 whf = some (win_z, whn_z, whf_z) := hf
    generalize loop2 (b_Mo_remember_2 win wif ) n = kh2 at hf ih2
    unfold b_Mo_remember_2 at hf
    refine lv_iload_n hx hb d_Mo_remember_2 rfl (lv_at hl 1 rfl) ?_
    refine lv_aload_n hx hb d_Mo_remember_3 rfl (lv_at hl 0 rfl) ?_
    refine va_get (D := (dC, dI)) (ci := 7) (v := .int win) (C := R_Mo) (T := T_Mo) (N := 21) hx hb hts w_359 hown hK hP 0 rfl rfl 3 (by decide) (hts _ w_370) (fun _ h9 => h9) rfl d_Mo_remember_4 ?_
    refine lv_icmp_ge (tgt := 28) hx hb d_Mo_remember_7 (by decide) (fun c_7 => ?_) (fun c_7 => ?_)
    · have hf := br_pos c_7 hf
      refine lv_aload_n hx hb d_Mo_remember_28 rfl (lv_at hl 0 rfl) ?_
      refine lv_aload_n hx hb d_Mo_remember_29 rfl (lv_at hl 0 rfl) ?_
      refine va_get (D := (dC, dI)) (ci := 7) (v := .int win) (C := R_Mo) (T := T_Mo) (N := 21) hx hb hts w_359 hown hK hP 0 rfl rfl 3 (by decide) (hts _ w_370) (fun _ h9 => h9) rfl d_Mo_remember_30 ?_
      refine va_put (D := (dC, dI)) (ci := 7) (v := .int win) (ty := .int) (C := R_Mo) (T := T_Mo) (N := 21) hx hb hts w_359 ty_Mo ty_Mo_ok nm_Mo hown hK hP hD hS 0 rfl rfl 5 (by decide) (hts _ w_373) (fun _ h9 => h9) rfl (by decide +kernel) rfl rfl (Nat.le_of_ble_eq_true rfl) d_Mo_remember_33 (fun H locs hP hD hS => ?_)
      have hP : va_P (dC, dI) vwCl (wd_Mo_remember w wi wh wo wd wm wp wb wc wl cB cI cJ win won win wpl wdn wfo wmn wpn wbn wcn wat wnu wif whf) H := hP
      have hD : va_D A (wd_Mo_remember w wi wh wo wd wm wp wb wc wl cB cI cJ win won win wpl wdn wfo wmn wpn wbn wcn wat wnu wif whf) := hD
      refine lv_aload_n hx hb d_Mo_remember_36 rfl (lv_at hl 0 rfl) ?_
      refine lv_iconst (v := 0) hx hb d_Mo_remember_37 (by decide) ?_
      refine va_put (D := (dC, dI)) (ci := 7) (v := .int (0 : Int32)) (ty := .int) (C := R_Mo) (T := T_Mo) (N := 21) hx hb hts w_359 ty_Mo ty_Mo_ok nm_Mo hown hK hP hD hS 0 rfl rfl 3 (by decide) (hts _ w_370) (fun _ h9 => h9) rfl (by decide +kernel) rfl rfl (Nat.le_of_ble_eq_true rfl) d_Mo_remember_38 (fun H locs hP hD hS => ?_)
      have hP : va_P (dC, dI) vwCl (wd_Mo_remember w wi wh wo wd wm wp wb wc wl cB cI cJ (0 : Int32) won win wpl wdn wfo wmn wpn wbn wcn wat wnu wif whf) H := hP
      have hD : va_D A (wd_Mo_remember w wi wh wo wd wm wp wb wc wl cB cI cJ (0 : Int32) won win wpl wdn wfo wmn wpn wbn wcn wat wnu wif whf) := hD
      cases hf
      exact s_vret hx hb hr hlocks hP hK hD hS d_Mo_remember_41
    · have hf := br_neg c_7 hf
      refine lv_aload_n hx hb d_Mo_remember_10 rfl (lv_at hl 0 rfl) ?_
      refine va_get (D := (dC, dI)) (ci := 7) (v := .ref wh) (C := R_Mo) (T := T_Mo) (N := 21) hx hb hts w_359 hown hK hP 0 rfl rfl 2 (by decide) (hts _ w_374) (fun _ h9 => h9) rfl d_Mo_remember_11 ?_
      refine lv_iload_n hx hb d_Mo_remember_14 rfl (lv_at hl 1 rfl) ?_
      refine lv_aload_n hx hb d_Mo_remember_15 rfl (lv_at hl 0 rfl) ?_
      refine va_get (D := (dC, dI)) (ci := 7) (v := .ref wi) (C := R_Mo) (T := T_Mo) (N := 21) hx hb hts w_359 hown hK hP 0 rfl rfl 0 (by decide) (hts _ w_369) (fun _ h9 => h9) rfl d_Mo_remember_16 ?_
      refine lv_iload_n hx hb d_Mo_remember_19 rfl (lv_at hl 1 rfl) ?_
      obtain ⟨h_in, hf⟩ := as_some hf
      refine va_iald hx hb hK hP 1 1 rfl rfl h_in d_Mo_remember_20 ?_
      obtain ⟨h_in, hf⟩ := as_some hf
      refine va_iast hx hb hK hP hD hS 2 1 rfl rfl h_in d_Mo_remember_21 (fun H locs hP hD hS => ?_)
      have hP : va_P (dC, dI) vwCl (wd_Mo_remember w wi wh wo wd wm wp wb wc wl cB cI cJ win won whn wpl wdn wfo wmn wpn wbn wcn wat wnu wif (upd whf x1.toNatClampNeg (wif x1.toNatClampNeg))) H := hP
      have hD : va_D A (wd_Mo_remember w wi wh wo wd wm wp wb wc wl cB cI cJ win won whn wpl wdn wfo wmn wpn wbn wcn wat wnu wif (upd whf x1.toNatClampNeg (wif x1.toNatClampNeg))) := hD
      refine lv_iinc (v := (x1 + 1)) (lv' := [(1, .int (x1 + 1)), (0, .ref w)]) hx hb d_Mo_remember_22 hl (k := 1) rfl (congrArg (fun z => x1 + z) (by decide)) (by decide) rfl (fun ls hl => ?_)
      refine lv_goto (tgt := 2) hx hb d_Mo_remember_25 (by decide) ?_
      exact ih2 (x1 + 1) (upd whf x1.toNatClampNeg (wif x1.toNatClampNeg)) hf _ _ hP hD hS _ (lv_sub hl [1, 0] rfl)
noncomputable def j_Mo_remember_0 (N : Nat) (win : Int32) (wif : Nat → Int32) (whf : Nat → Int32)  : Option (Int32 × Int32 × (Nat → Int32)) :=
  (loop2 (b_Mo_remember_2 win wif ) N (0 : Int32) whf)
set_option maxHeartbeats 4000000 in
set_option maxRecDepth 100000 in
theorem k_Mo_remember_0 {win_z : Int32} {whn_z : Int32} {whf_z : Nat → Int32} (C : Fx p s m args meth c cd_Mo_remember 2 R_Mo lw_g none) (hK : va_K (dC, dI) vwCl [(cB, .byte), (cI, .int), (cJ, .long)] s) (hA : ∀ q, s.heap.size ≤ q → A q) (win : Int32) (won : Int32) (whn : Int32) (wpl : Int32) (wdn : Int32) (wfo : Int32) (wmn : Int32) (wpn : Int32) (wbn : Int32) (wcn : Int32) (wat : Int32) (wnu : Int32) (wif : Nat → Int32) (whf : Nat → Int32)  (hf : j_Mo_remember_0 N win wif whf  = some (win_z, whn_z, whf_z)) (hP : va_P (dC, dI) vwCl (wd_Mo_remember w wi wh wo wd wm wp wb wc wl cB cI cJ win won whn wpl wdn wfo wmn wpn wbn wcn wat wnu wif whf) H) (hD : va_D A (wd_Mo_remember w wi wh wo wd wm wp wb wc wl cB cI cJ win won whn wpl wdn wfo wmn wpn wbn wcn wat wnu wif whf)) (hS : va_S A s.heap H locs) (hl : lv_has ls 2 [(0, .ref w)]) : W p l e rm_Mo_remember s m args below meth c H locs 0 0 (MQ below (sQv (dC, dI) vwCl [(cB, .byte), (cI, .int), (cJ, .long)] A (wd_Mo_remember w wi wh wo wd wm wp wb wc wl cB cI cJ win_z won whn_z wpl wdn wfo wmn wpn wbn wcn wat wnu wif whf_z)) args s 0 0 A) (F0 m 0 ls []) := by
  obtain ⟨hx, hb, hml, hown, hts, hr, hlocks, hZ⟩ := id C
  unfold j_Mo_remember_0 at hf
  refine lv_iconst (v := 0) hx hb d_Mo_remember_0 (by decide) ?_
  refine lv_istore_n (lv' := [(1, .int (0 : Int32)), (0, .ref w)]) hx hb d_Mo_remember_1 rfl hl (by decide) rfl (fun ls hl => ?_)
  exact k_Mo_remember_2 C hK hA win won whn wpl wdn wfo wmn wpn wbn wcn wat wnu wif  N (0 : Int32) whf hf _ _ hP hD hS _ (lv_sub hl [1, 0] rfl)
end
noncomputable abbrev f_Mo_remember (N : Nat) (win : Int32) (wif : Nat → Int32) (whf : Nat → Int32) : Option (Int32 × Int32 × (Nat → Int32)) := j_Mo_remember_0 N win wif whf
set_option maxRecDepth 100000 in
theorem c_Mo_remember {N : Nat} (l : Launch) (dC : Nat → ClassId) (dI : Nat → Nat → Nat) (cB cI cJ : ClassId) (w wi wh wo wd wm wp wb wc wl : Nat) (win : Int32) (won : Int32) (whn : Int32) (wpl : Int32) (wdn : Int32) (wfo : Int32) (wmn : Int32) (wpn : Int32) (wbn : Int32) (wcn : Int32) (wat : Int32) (wnu : Int32) (wif : Nat → Int32) (whf : Nat → Int32)  {win_z : Int32} {whn_z : Int32} {whf_z : Nat → Int32} (hf : f_Mo_remember N win wif whf = some (win_z, whn_z, whf_z)) : MetV l y_Mo_remember ws_Mo_remember rm_Mo_remember (dC, dI) vwCl [(cB, .byte), (cI, .int), (cJ, .long)] [.ref w] (wd_Mo_remember w wi wh wo wd wm wp wb wc wl cB cI cJ win won whn wpl wdn wfo wmn wpn wbn wcn wat wnu wif whf)  (wd_Mo_remember w wi wh wo wd wm wp wb wc wl cB cI cJ win_z won whn_z wpl wdn wfo wmn wpn wbn wcn wat wnu wif whf_z) 0 0 :=
  s_ofv (bytes := cd_Mo_remember) (maxL := 2) (ret := none) (by decide) rfl (Nat.le_of_ble_eq_true rfl) (fun p e s m below meth c A ls C hK hA hP hD hS hl => k_Mo_remember_0 C hK hA win won whn wpl wdn wfo wmn wpn wbn wcn wat wnu wif whf hf hP hD hS (lv_sub hl [0] rfl))

abbrev wd_Mo_size (w wi wo wh wd wm wp wb wc wl : Nat) (cB cI cJ : ClassId) (win : Int32) (won : Int32) (whn : Int32) (wpl : Int32) (wdn : Int32) (wfo : Int32) (wmn : Int32) (wpn : Int32) (wbn : Int32) (wcn : Int32) (wat : Int32) (wnu : Int32) : va_W := [(w, .inr (7, [.ref wi, .ref wo, .ref wh, .int win, .int won, .int whn, .int wpl, .ref wd, .int wdn, .int wfo, .ref wm, .int wmn, .ref wp, .int wpn, .ref wb, .int wbn, .ref wc, .int wcn, .ref wl, .int wat, .int wnu]))]
abbrev rm_Mo_size : Room := { frames := 0, cells := 0, slots := 0, locals := 0 }
section
variable {p : Program} {l : Launch} {e : Env} {s : State} {m : MethodId} {args : Array Value} {below : List Frame} {meth : Method} {c : Code} {dC : Nat → ClassId} {dI : Nat → Nat → Nat} {A : Nat → Prop} {cB cI cJ : ClassId} {H : Heap} {locs : List Loc} {ls : Array Slot} {N : Nat} {w wi wo wh wd wm wp wb wc wl : Nat}
noncomputable def j_Mo_size_0 (won : Int32)  : Option (Int32) :=
  (some won : Option (Int32))
set_option maxHeartbeats 4000000 in
set_option maxRecDepth 100000 in
theorem k_Mo_size_0 {r_z : Int32} (C : Fx p s m args meth c cd_Mo_size 1 R_Mo lw_g (some .int)) (hK : va_K (dC, dI) vwCl [(cB, .byte), (cI, .int), (cJ, .long)] s) (hA : ∀ q, s.heap.size ≤ q → A q) (win : Int32) (won : Int32) (whn : Int32) (wpl : Int32) (wdn : Int32) (wfo : Int32) (wmn : Int32) (wpn : Int32) (wbn : Int32) (wcn : Int32) (wat : Int32) (wnu : Int32)  (hf : j_Mo_size_0 won  = some r_z) (hP : va_P (dC, dI) vwCl (wd_Mo_size w wi wo wh wd wm wp wb wc wl cB cI cJ win won whn wpl wdn wfo wmn wpn wbn wcn wat wnu) H) (hD : va_D A (wd_Mo_size w wi wo wh wd wm wp wb wc wl cB cI cJ win won whn wpl wdn wfo wmn wpn wbn wcn wat wnu)) (hS : va_S A s.heap H locs) (hl : lv_has ls 1 [(0, .ref w)]) : W p l e rm_Mo_size s m args below meth c H locs 0 0 (MQ below (sQi (dC, dI) vwCl [(cB, .byte), (cI, .int), (cJ, .long)] A r_z (wd_Mo_size w wi wo wh wd wm wp wb wc wl cB cI cJ win won whn wpl wdn wfo wmn wpn wbn wcn wat wnu)) args s 0 0 A) (F0 m 0 ls []) := by
  obtain ⟨hx, hb, hml, hown, hts, hr, hlocks, hZ⟩ := id C
  unfold j_Mo_size_0 at hf
  refine lv_aload_n hx hb d_Mo_size_0 rfl (lv_at hl 0 rfl) ?_
  refine va_get (D := (dC, dI)) (ci := 7) (v := .int won) (C := R_Mo) (T := T_Mo) (N := 21) hx hb hts w_359 hown hK hP 0 rfl rfl 4 (by decide) (hts _ w_377) (fun _ h9 => h9) rfl d_Mo_size_1 ?_
  cases hf
  exact s_iret hx hb hr hlocks hP hK hD hS d_Mo_size_4
end
noncomputable abbrev f_Mo_size (won : Int32) : Option (Int32) := j_Mo_size_0 won
set_option maxRecDepth 100000 in
theorem c_Mo_size (l : Launch) (dC : Nat → ClassId) (dI : Nat → Nat → Nat) (cB cI cJ : ClassId) (w wi wo wh wd wm wp wb wc wl : Nat) (win : Int32) (won : Int32) (whn : Int32) (wpl : Int32) (wdn : Int32) (wfo : Int32) (wmn : Int32) (wpn : Int32) (wbn : Int32) (wcn : Int32) (wat : Int32) (wnu : Int32)  {r_z : Int32} (hf : f_Mo_size won = some r_z) : MetI l y_Mo_size ws_Mo_size rm_Mo_size (dC, dI) vwCl [(cB, .byte), (cI, .int), (cJ, .long)] [.ref w] (wd_Mo_size w wi wo wh wd wm wp wb wc wl cB cI cJ win won whn wpl wdn wfo wmn wpn wbn wcn wat wnu) r_z (wd_Mo_size w wi wo wh wd wm wp wb wc wl cB cI cJ win won whn wpl wdn wfo wmn wpn wbn wcn wat wnu) 0 0 :=
  s_ofi (bytes := cd_Mo_size) (maxL := 1) (ret := (some .int)) (by decide) rfl (Nat.le_of_ble_eq_true rfl) (fun p e s m below meth c A ls C hK hA hP hD hS hl => k_Mo_size_0 C hK hA win won whn wpl wdn wfo wmn wpn wbn wcn wat wnu hf hP hD hS (lv_sub hl [0] rfl))

abbrev wd_Mo_sum (w wi wl wo wh wd wm wp wb wc : Nat) (cB cI cJ : ClassId) (win : Int32) (won : Int32) (whn : Int32) (wpl : Int32) (wdn : Int32) (wfo : Int32) (wmn : Int32) (wpn : Int32) (wbn : Int32) (wcn : Int32) (wat : Int32) (wnu : Int32) (wif : Nat → Int32) (wlf : Nat → Int64) : va_W := [(w, .inr (7, [.ref wi, .ref wo, .ref wh, .int win, .int won, .int whn, .int wpl, .ref wd, .int wdn, .int wfo, .ref wm, .int wmn, .ref wp, .int wpn, .ref wb, .int wbn, .ref wc, .int wcn, .ref wl, .int wat, .int wnu])), (wi, .inl (cI, 8000, .inl wif)), (wl, .inl (cJ, 4, .inr (.inl wlf)))]
abbrev rm_Mo_sum : Room := { frames := 2, cells := 0, slots := 0, locals := 61 }
section
variable {p : Program} {l : Launch} {e : Env} {s : State} {m : MethodId} {args : Array Value} {below : List Frame} {meth : Method} {c : Code} {dC : Nat → ClassId} {dI : Nat → Nat → Nat} {A : Nat → Prop} {cB cI cJ : ClassId} {H : Heap} {locs : List Loc} {ls : Array Slot} {N : Nat} {w wi wl wo wh wd wm wp wb wc : Nat}
noncomputable def j_Mo_sum_0 (N : Nat) (win : Int32) (wif : Nat → Int32) (wlf : Nat → Int64)  : Option (Int32 × (Nat → Int64)) :=
  bd2 (f_Mo_sumOf N 8000 (0 : Int32) win wlf wif) (fun r10 wlf_10 => (some ((r10.toInt32), wlf_10) : Option (Int32 × (Nat → Int64))))
set_option maxHeartbeats 4000000 in
set_option maxRecDepth 100000 in
theorem k_Mo_sum_0 {r_z : Int32} {wlf_z : Nat → Int64} (C : Fx p s m args meth c cd_Mo_sum 1 R_Mo lw_g (some .int)) (hK : va_K (dC, dI) vwCl [(cB, .byte), (cI, .int), (cJ, .long)] s) (hA : ∀ q, s.heap.size ≤ q → A q) (win : Int32) (won : Int32) (whn : Int32) (wpl : Int32) (wdn : Int32) (wfo : Int32) (wmn : Int32) (wpn : Int32) (wbn : Int32) (wcn : Int32) (wat : Int32) (wnu : Int32) (wif : Nat → Int32) (wlf : Nat → Int64)  (hf : j_Mo_sum_0 N win wif wlf  = some (r_z, wlf_z)) (hP : va_P (dC, dI) vwCl (wd_Mo_sum w wi wl wo wh wd wm wp wb wc cB cI cJ win won whn wpl wdn wfo wmn wpn wbn wcn wat wnu wif wlf) H) (hD : va_D A (wd_Mo_sum w wi wl wo wh wd wm wp wb wc cB cI cJ win won whn wpl wdn wfo wmn wpn wbn wcn wat wnu wif wlf)) (hS : va_S A s.heap H locs) (hl : lv_has ls 1 [(0, .ref w)]) : W p l e rm_Mo_sum s m args below meth c H locs 0 0 (MQ below (sQi (dC, dI) vwCl [(cB, .byte), (cI, .int), (cJ, .long)] A r_z (wd_Mo_sum w wi wl wo wh wd wm wp wb wc cB cI cJ win won whn wpl wdn wfo wmn wpn wbn wcn wat wnu wif wlf_z)) args s 0 0 A) (F0 m 0 ls []) := by
  obtain ⟨hx, hb, hml, hown, hts, hr, hlocks, hZ⟩ := id C
  unfold j_Mo_sum_0 at hf
  refine lv_aload_n hx hb d_Mo_sum_0 rfl (lv_at hl 0 rfl) ?_
  refine lv_aload_n hx hb d_Mo_sum_1 rfl (lv_at hl 0 rfl) ?_
  refine va_get (D := (dC, dI)) (ci := 7) (v := .ref wi) (C := R_Mo) (T := T_Mo) (N := 21) hx hb hts w_359 hown hK hP 0 rfl rfl 0 (by decide) (hts _ w_369) (fun _ h9 => h9) rfl d_Mo_sum_2 ?_
  refine lv_iconst (v := 0) hx hb d_Mo_sum_5 (by decide) ?_
  refine lv_aload_n hx hb d_Mo_sum_6 rfl (lv_at hl 0 rfl) ?_
  refine va_get (D := (dC, dI)) (ci := 7) (v := .int win) (C := R_Mo) (T := T_Mo) (N := 21) hx hb hts w_359 hown hK hP 0 rfl rfl 3 (by decide) (hts _ w_370) (fun _ h9 => h9) rfl d_Mo_sum_7 ?_
  obtain ⟨r10, wlf_10, hc10, hf⟩ := bd2_some hf
  refine s_Vl (As := [.ref wi, .int (0 : Int32), .int win]) (rest := []) (wr := []) (ws' := wd_Mo_sum w wi wl wo wh wd wm wp wb wc cB cI cJ win won whn wpl wdn wfo wmn wpn wbn wcn wat wnu wif wlf_10) C.call (c_Mo_sumOf l dC dI cB cI cJ w wl wi wi wo wh wd wm wp wb wc 8000 win won whn wpl wdn wfo wmn wpn wbn wcn wat wnu wlf wif (0 : Int32) win hc10) (cwV 3 hts (gd_V w_449 w_450 w_451 w_365 w_452) rfl rfl rfl ⟨rfl, hd_Mo_sumOf⟩ ⟨Nat.le_of_ble_eq_true rfl, Nat.le_of_ble_eq_true rfl⟩) rfl hl.1 rfl (Nat.le_of_ble_eq_true rfl) d_Mo_sum_10 ⟨Nat.le_of_ble_eq_true rfl, Nat.le_of_ble_eq_true rfl⟩ hZ hK hP hD hS hA 7 0 rfl rfl [0, 2, 1] [] [0, 2, 1] rfl rfl rfl rfl (by decide) rfl rfl (fun H locs hP hD hS => ?_)
  refine lv_l2i (v := (r10.toInt32)) hx hb d_Mo_sum_13 rfl ?_
  cases hf
  exact s_iret hx hb hr hlocks hP hK hD hS d_Mo_sum_14
end
noncomputable abbrev f_Mo_sum (N : Nat) (win : Int32) (wif : Nat → Int32) (wlf : Nat → Int64) : Option (Int32 × (Nat → Int64)) := j_Mo_sum_0 N win wif wlf
set_option maxRecDepth 100000 in
theorem c_Mo_sum {N : Nat} (l : Launch) (dC : Nat → ClassId) (dI : Nat → Nat → Nat) (cB cI cJ : ClassId) (w wi wl wo wh wd wm wp wb wc : Nat) (win : Int32) (won : Int32) (whn : Int32) (wpl : Int32) (wdn : Int32) (wfo : Int32) (wmn : Int32) (wpn : Int32) (wbn : Int32) (wcn : Int32) (wat : Int32) (wnu : Int32) (wif : Nat → Int32) (wlf : Nat → Int64)  {r_z : Int32} {wlf_z : Nat → Int64} (hf : f_Mo_sum N win wif wlf = some (r_z, wlf_z)) : MetI l y_Mo_sum ws_Mo_sum rm_Mo_sum (dC, dI) vwCl [(cB, .byte), (cI, .int), (cJ, .long)] [.ref w] (wd_Mo_sum w wi wl wo wh wd wm wp wb wc cB cI cJ win won whn wpl wdn wfo wmn wpn wbn wcn wat wnu wif wlf) r_z (wd_Mo_sum w wi wl wo wh wd wm wp wb wc cB cI cJ win won whn wpl wdn wfo wmn wpn wbn wcn wat wnu wif wlf_z) 0 0 :=
  s_ofi (bytes := cd_Mo_sum) (maxL := 1) (ret := (some .int)) (by decide) rfl (Nat.le_of_ble_eq_true rfl) (fun p e s m below meth c A ls C hK hA hP hD hS hl => k_Mo_sum_0 C hK hA win won whn wpl wdn wfo wmn wpn wbn wcn wat wnu wif wlf hf hP hD hS (lv_sub hl [0] rfl))

abbrev wd_Mo_turn (w wi wo wh wd wm wp wb wc wl : Nat) (cB cI cJ : ClassId) (win : Int32) (won : Int32) (whn : Int32) (wpl : Int32) (wdn : Int32) (wfo : Int32) (wmn : Int32) (wpn : Int32) (wbn : Int32) (wcn : Int32) (wat : Int32) (wnu : Int32) (wif : Nat → Int32) (wof : Nat → Int32) : va_W := [(w, .inr (7, [.ref wi, .ref wo, .ref wh, .int win, .int won, .int whn, .int wpl, .ref wd, .int wdn, .int wfo, .ref wm, .int wmn, .ref wp, .int wpn, .ref wb, .int wbn, .ref wc, .int wcn, .ref wl, .int wat, .int wnu])), (wi, .inl (cI, 8000, .inl wif)), (wo, .inl (cI, 8000, .inl wof))]
abbrev rm_Mo_turn : Room := { frames := 0, cells := 0, slots := 0, locals := 0 }
section
variable {p : Program} {l : Launch} {e : Env} {s : State} {m : MethodId} {args : Array Value} {below : List Frame} {meth : Method} {c : Code} {dC : Nat → ClassId} {dI : Nat → Nat → Nat} {A : Nat → Prop} {cB cI cJ : ClassId} {H : Heap} {locs : List Loc} {ls : Array Slot} {N : Nat} {w wi wo wh wd wm wp wb wc wl : Nat}
noncomputable def b_Mo_turn_2 (won : Int32) (wof : Nat → Int32)  (kh2 : Int32 → (Nat → Int32) → Option (Int32 × (Nat → Int32))) (x1 : Int32) (wif : Nat → Int32) : Option (Int32 × (Nat → Int32)) :=
  (if won ≤ x1 then (some (won, wif) : Option (Int32 × (Nat → Int32))) else as_ (vp_in x1 8000) (as_ (vp_in x1 8000) ((kh2 (x1 + 1) (upd wif x1.toNatClampNeg (wof x1.toNatClampNeg))))))
set_option maxHeartbeats 4000000 in
set_option maxRecDepth 100000 in
theorem k_Mo_turn_2 {win_z : Int32} {wif_z : Nat → Int32} (C : Fx p s m args meth c cd_Mo_turn 2 R_Mo lw_g none) (hK : va_K (dC, dI) vwCl [(cB, .byte), (cI, .int), (cJ, .long)] s) (hA : ∀ q, s.heap.size ≤ q → A q) (win : Int32) (won : Int32) (whn : Int32) (wpl : Int32) (wdn : Int32) (wfo : Int32) (wmn : Int32) (wpn : Int32) (wbn : Int32) (wcn : Int32) (wat : Int32) (wnu : Int32) (wof : Nat → Int32)  : ∀ (n : Nat) (x1 : Int32) (wif : Nat → Int32), loop2 (b_Mo_turn_2 won wof ) n x1 wif = some (win_z, wif_z) → ∀ (H : Heap) (locs : List Loc), va_P (dC, dI) vwCl (wd_Mo_turn w wi wo wh wd wm wp wb wc wl cB cI cJ win won whn wpl wdn wfo wmn wpn wbn wcn wat wnu wif wof) H → va_D A (wd_Mo_turn w wi wo wh wd wm wp wb wc wl cB cI cJ win won whn wpl wdn wfo wmn wpn wbn wcn wat wnu wif wof) → va_S A s.heap H locs → ∀ (ls : Array Slot), lv_has ls 2 [(0, .ref w), (1, .int x1)] → W p l e rm_Mo_turn s m args below meth c H locs 0 0 (MQ below (sQv (dC, dI) vwCl [(cB, .byte), (cI, .int), (cJ, .long)] A (wd_Mo_turn w wi wo wh wd wm wp wb wc wl cB cI cJ win_z won whn wpl wdn wfo wmn wpn wbn wcn wat wnu wif_z wof)) args s 0 0 A) (F0 m 2 ls []) := by
  obtain ⟨hx, hb, hml, hown, hts, hr, hlocks, hZ⟩ := id C
  intro n
  induction n with
  | zero => intro x1 wif hf; cases hf
  | succ n ih2 =>
    intro x1 wif hf H locs hP hD hS ls hl
    have hf : b_Mo_turn_2 won wof  (loop2 (b_Mo_turn_2 won wof ) n) x1 wif = some (win_z, wif_z) := hf
    generalize loop2 (b_Mo_turn_2 won wof ) n = kh2 at hf ih2
    unfold b_Mo_turn_2 at hf
    refine lv_iload_n hx hb d_Mo_turn_2 rfl (lv_at hl 1 rfl) ?_
    refine lv_aload_n hx hb d_Mo_turn_3 rfl (lv_at hl 0 rfl) ?_
    refine va_get (D := (dC, dI)) (ci := 7) (v := .int won) (C := R_Mo) (T := T_Mo) (N := 21) hx hb hts w_359 hown hK hP 0 rfl rfl 4 (by decide) (hts _ w_377) (fun _ h9 => h9) rfl d_Mo_turn_4 ?_
    refine lv_icmp_ge (tgt := 28) hx hb d_Mo_turn_7 (by decide) (fun c_7 => ?_) (fun c_7 => ?_)
    · have hf := br_pos c_7 hf
      refine lv_aload_n hx hb d_Mo_turn_28 rfl (lv_at hl 0 rfl) ?_
      refine lv_aload_n hx hb d_Mo_turn_29 rfl (lv_at hl 0 rfl) ?_
      refine va_get (D := (dC, dI)) (ci := 7) (v := .int won) (C := R_Mo) (T := T_Mo) (N := 21) hx hb hts w_359 hown hK hP 0 rfl rfl 4 (by decide) (hts _ w_377) (fun _ h9 => h9) rfl d_Mo_turn_30 ?_
      refine va_put (D := (dC, dI)) (ci := 7) (v := .int won) (ty := .int) (C := R_Mo) (T := T_Mo) (N := 21) hx hb hts w_359 ty_Mo ty_Mo_ok nm_Mo hown hK hP hD hS 0 rfl rfl 3 (by decide) (hts _ w_370) (fun _ h9 => h9) rfl (by decide +kernel) rfl rfl (Nat.le_of_ble_eq_true rfl) d_Mo_turn_33 (fun H locs hP hD hS => ?_)
      have hP : va_P (dC, dI) vwCl (wd_Mo_turn w wi wo wh wd wm wp wb wc wl cB cI cJ won won whn wpl wdn wfo wmn wpn wbn wcn wat wnu wif wof) H := hP
      have hD : va_D A (wd_Mo_turn w wi wo wh wd wm wp wb wc wl cB cI cJ won won whn wpl wdn wfo wmn wpn wbn wcn wat wnu wif wof) := hD
      cases hf
      exact s_vret hx hb hr hlocks hP hK hD hS d_Mo_turn_36
    · have hf := br_neg c_7 hf
      refine lv_aload_n hx hb d_Mo_turn_10 rfl (lv_at hl 0 rfl) ?_
      refine va_get (D := (dC, dI)) (ci := 7) (v := .ref wi) (C := R_Mo) (T := T_Mo) (N := 21) hx hb hts w_359 hown hK hP 0 rfl rfl 0 (by decide) (hts _ w_369) (fun _ h9 => h9) rfl d_Mo_turn_11 ?_
      refine lv_iload_n hx hb d_Mo_turn_14 rfl (lv_at hl 1 rfl) ?_
      refine lv_aload_n hx hb d_Mo_turn_15 rfl (lv_at hl 0 rfl) ?_
      refine va_get (D := (dC, dI)) (ci := 7) (v := .ref wo) (C := R_Mo) (T := T_Mo) (N := 21) hx hb hts w_359 hown hK hP 0 rfl rfl 1 (by decide) (hts _ w_378) (fun _ h9 => h9) rfl d_Mo_turn_16 ?_
      refine lv_iload_n hx hb d_Mo_turn_19 rfl (lv_at hl 1 rfl) ?_
      obtain ⟨h_in, hf⟩ := as_some hf
      refine va_iald hx hb hK hP 2 1 rfl rfl h_in d_Mo_turn_20 ?_
      obtain ⟨h_in, hf⟩ := as_some hf
      refine va_iast hx hb hK hP hD hS 1 1 rfl rfl h_in d_Mo_turn_21 (fun H locs hP hD hS => ?_)
      have hP : va_P (dC, dI) vwCl (wd_Mo_turn w wi wo wh wd wm wp wb wc wl cB cI cJ win won whn wpl wdn wfo wmn wpn wbn wcn wat wnu (upd wif x1.toNatClampNeg (wof x1.toNatClampNeg)) wof) H := hP
      have hD : va_D A (wd_Mo_turn w wi wo wh wd wm wp wb wc wl cB cI cJ win won whn wpl wdn wfo wmn wpn wbn wcn wat wnu (upd wif x1.toNatClampNeg (wof x1.toNatClampNeg)) wof) := hD
      refine lv_iinc (v := (x1 + 1)) (lv' := [(1, .int (x1 + 1)), (0, .ref w)]) hx hb d_Mo_turn_22 hl (k := 1) rfl (congrArg (fun z => x1 + z) (by decide)) (by decide) rfl (fun ls hl => ?_)
      refine lv_goto (tgt := 2) hx hb d_Mo_turn_25 (by decide) ?_
      exact ih2 (x1 + 1) (upd wif x1.toNatClampNeg (wof x1.toNatClampNeg)) hf _ _ hP hD hS _ (lv_sub hl [1, 0] rfl)
noncomputable def j_Mo_turn_0 (N : Nat) (won : Int32) (wif : Nat → Int32) (wof : Nat → Int32)  : Option (Int32 × (Nat → Int32)) :=
  (loop2 (b_Mo_turn_2 won wof ) N (0 : Int32) wif)
set_option maxHeartbeats 4000000 in
set_option maxRecDepth 100000 in
theorem k_Mo_turn_0 {win_z : Int32} {wif_z : Nat → Int32} (C : Fx p s m args meth c cd_Mo_turn 2 R_Mo lw_g none) (hK : va_K (dC, dI) vwCl [(cB, .byte), (cI, .int), (cJ, .long)] s) (hA : ∀ q, s.heap.size ≤ q → A q) (win : Int32) (won : Int32) (whn : Int32) (wpl : Int32) (wdn : Int32) (wfo : Int32) (wmn : Int32) (wpn : Int32) (wbn : Int32) (wcn : Int32) (wat : Int32) (wnu : Int32) (wif : Nat → Int32) (wof : Nat → Int32)  (hf : j_Mo_turn_0 N won wif wof  = some (win_z, wif_z)) (hP : va_P (dC, dI) vwCl (wd_Mo_turn w wi wo wh wd wm wp wb wc wl cB cI cJ win won whn wpl wdn wfo wmn wpn wbn wcn wat wnu wif wof) H) (hD : va_D A (wd_Mo_turn w wi wo wh wd wm wp wb wc wl cB cI cJ win won whn wpl wdn wfo wmn wpn wbn wcn wat wnu wif wof)) (hS : va_S A s.heap H locs) (hl : lv_has ls 2 [(0, .ref w)]) : W p l e rm_Mo_turn s m args below meth c H locs 0 0 (MQ below (sQv (dC, dI) vwCl [(cB, .byte), (cI, .int), (cJ, .long)] A (wd_Mo_turn w wi wo wh wd wm wp wb wc wl cB cI cJ win_z won whn wpl wdn wfo wmn wpn wbn wcn wat wnu wif_z wof)) args s 0 0 A) (F0 m 0 ls []) := by
  obtain ⟨hx, hb, hml, hown, hts, hr, hlocks, hZ⟩ := id C
  unfold j_Mo_turn_0 at hf
  refine lv_iconst (v := 0) hx hb d_Mo_turn_0 (by decide) ?_
  refine lv_istore_n (lv' := [(1, .int (0 : Int32)), (0, .ref w)]) hx hb d_Mo_turn_1 rfl hl (by decide) rfl (fun ls hl => ?_)
  exact k_Mo_turn_2 C hK hA win won whn wpl wdn wfo wmn wpn wbn wcn wat wnu wof  N (0 : Int32) wif hf _ _ hP hD hS _ (lv_sub hl [1, 0] rfl)
end
noncomputable abbrev f_Mo_turn (N : Nat) (won : Int32) (wif : Nat → Int32) (wof : Nat → Int32) : Option (Int32 × (Nat → Int32)) := j_Mo_turn_0 N won wif wof
set_option maxRecDepth 100000 in
theorem c_Mo_turn {N : Nat} (l : Launch) (dC : Nat → ClassId) (dI : Nat → Nat → Nat) (cB cI cJ : ClassId) (w wi wo wh wd wm wp wb wc wl : Nat) (win : Int32) (won : Int32) (whn : Int32) (wpl : Int32) (wdn : Int32) (wfo : Int32) (wmn : Int32) (wpn : Int32) (wbn : Int32) (wcn : Int32) (wat : Int32) (wnu : Int32) (wif : Nat → Int32) (wof : Nat → Int32)  {win_z : Int32} {wif_z : Nat → Int32} (hf : f_Mo_turn N won wif wof = some (win_z, wif_z)) : MetV l y_Mo_turn ws_Mo_turn rm_Mo_turn (dC, dI) vwCl [(cB, .byte), (cI, .int), (cJ, .long)] [.ref w] (wd_Mo_turn w wi wo wh wd wm wp wb wc wl cB cI cJ win won whn wpl wdn wfo wmn wpn wbn wcn wat wnu wif wof)  (wd_Mo_turn w wi wo wh wd wm wp wb wc wl cB cI cJ win_z won whn wpl wdn wfo wmn wpn wbn wcn wat wnu wif_z wof) 0 0 :=
  s_ofv (bytes := cd_Mo_turn) (maxL := 2) (ret := none) (by decide) rfl (Nat.le_of_ble_eq_true rfl) (fun p e s m below meth c A ls C hK hA hP hD hS hl => k_Mo_turn_0 C hK hA win won whn wpl wdn wfo wmn wpn wbn wcn wat wnu wif wof hf hP hD hS (lv_sub hl [0] rfl))

abbrev wd_Mo_unblock (w wi wo wh wb wd wm wp wc wl : Nat) (cB cI cJ : ClassId) (win : Int32) (won : Int32) (whn : Int32) (wpl : Int32) (wdn : Int32) (wfo : Int32) (wmn : Int32) (wpn : Int32) (wbn : Int32) (wcn : Int32) (wat : Int32) (wnu : Int32) (wif : Nat → Int32) (wof : Nat → Int32) (whf : Nat → Int32) (wbf : Nat → Int32) : va_W := [(w, .inr (7, [.ref wi, .ref wo, .ref wh, .int win, .int won, .int whn, .int wpl, .ref wd, .int wdn, .int wfo, .ref wm, .int wmn, .ref wp, .int wpn, .ref wb, .int wbn, .ref wc, .int wcn, .ref wl, .int wat, .int wnu])), (wi, .inl (cI, 8000, .inl wif)), (wo, .inl (cI, 8000, .inl wof)), (wh, .inl (cI, 8000, .inl whf)), (wb, .inl (cI, 16000, .inl wbf))]
abbrev rm_Mo_unblock : Room := { frames := 2, cells := 0, slots := 0, locals := 51 }
section
variable {p : Program} {l : Launch} {e : Env} {s : State} {m : MethodId} {args : Array Value} {below : List Frame} {meth : Method} {c : Code} {dC : Nat → ClassId} {dI : Nat → Nat → Nat} {A : Nat → Prop} {cB cI cJ : ClassId} {H : Heap} {locs : List Loc} {ls : Array Slot} {N : Nat} {w wi wo wh wb wd wm wp wc wl : Nat}
noncomputable def b_Mo_unblock_51 (won : Int32) (whn : Int32) (wpl : Int32) (wbn : Int32) (wat : Int32) (wnu : Int32) (wbf : Nat → Int32)  (kh51 : Int32 → (Nat → Int32) → Option (Int32 × Int32 × Int32 × Int32 × Int32 × Int32 × (Nat → Int32) × (Nat → Int32))) (x3 : Int32) (wof : Nat → Int32) : Option (Int32 × Int32 × Int32 × Int32 × Int32 × Int32 × (Nat → Int32) × (Nat → Int32)) :=
  (if won ≤ x3 then (some (won, won, wpl, wbn, wat, wnu, wof, wbf) : Option (Int32 × Int32 × Int32 × Int32 × Int32 × Int32 × (Nat → Int32) × (Nat → Int32))) else as_ (vp_in (whn + x3) 16000) (as_ (vp_in x3 8000) ((kh51 (x3 + 1) (upd wof x3.toNatClampNeg (wbf (whn + x3).toNatClampNeg))))))
set_option maxHeartbeats 4000000 in
set_option maxRecDepth 100000 in
theorem k_Mo_unblock_51 {r_z : Int32} {won_z : Int32} {wpl_z : Int32} {wbn_z : Int32} {wat_z : Int32} {wnu_z : Int32} {wof_z : Nat → Int32} {wbf_z : Nat → Int32} (C : Fx p s m args meth c cd_Mo_unblock 4 R_Mo lw_g (some .int)) (hK : va_K (dC, dI) vwCl [(cB, .byte), (cI, .int), (cJ, .long)] s) (hA : ∀ q, s.heap.size ≤ q → A q) (win : Int32) (won : Int32) (whn : Int32) (wpl : Int32) (wdn : Int32) (wfo : Int32) (wmn : Int32) (wpn : Int32) (wbn : Int32) (wcn : Int32) (wat : Int32) (wnu : Int32) (wif : Nat → Int32) (whf : Nat → Int32) (wbf : Nat → Int32)  : ∀ (n : Nat) (x3 : Int32) (wof : Nat → Int32), loop2 (b_Mo_unblock_51 won whn wpl wbn wat wnu wbf ) n x3 wof = some (r_z, won_z, wpl_z, wbn_z, wat_z, wnu_z, wof_z, wbf_z) → ∀ (H : Heap) (locs : List Loc), va_P (dC, dI) vwCl (wd_Mo_unblock w wi wo wh wb wd wm wp wc wl cB cI cJ win won whn wpl wdn wfo wmn wpn wbn wcn wat wnu wif wof whf wbf) H → va_D A (wd_Mo_unblock w wi wo wh wb wd wm wp wc wl cB cI cJ win won whn wpl wdn wfo wmn wpn wbn wcn wat wnu wif wof whf wbf) → va_S A s.heap H locs → ∀ (ls : Array Slot), lv_has ls 4 [(0, .ref w), (3, .int x3)] → W p l e rm_Mo_unblock s m args below meth c H locs 0 0 (MQ below (sQi (dC, dI) vwCl [(cB, .byte), (cI, .int), (cJ, .long)] A r_z (wd_Mo_unblock w wi wo wh wb wd wm wp wc wl cB cI cJ win won_z whn wpl_z wdn wfo wmn wpn wbn_z wcn wat_z wnu_z wif wof_z whf wbf_z)) args s 0 0 A) (F0 m 51 ls []) := by
  obtain ⟨hx, hb, hml, hown, hts, hr, hlocks, hZ⟩ := id C
  intro n
  induction n with
  | zero => intro x3 wof hf; cases hf
  | succ n ih51 =>
    intro x3 wof hf H locs hP hD hS ls hl
    have hf : b_Mo_unblock_51 won whn wpl wbn wat wnu wbf  (loop2 (b_Mo_unblock_51 won whn wpl wbn wat wnu wbf ) n) x3 wof = some (r_z, won_z, wpl_z, wbn_z, wat_z, wnu_z, wof_z, wbf_z) := hf
    generalize loop2 (b_Mo_unblock_51 won whn wpl wbn wat wnu wbf ) n = kh51 at hf ih51
    unfold b_Mo_unblock_51 at hf
    refine lv_iload_n hx hb d_Mo_unblock_51 rfl (lv_at hl 1 rfl) ?_
    refine lv_aload_n hx hb d_Mo_unblock_52 rfl (lv_at hl 0 rfl) ?_
    refine va_get (D := (dC, dI)) (ci := 7) (v := .int won) (C := R_Mo) (T := T_Mo) (N := 21) hx hb hts w_359 hown hK hP 0 rfl rfl 4 (by decide) (hts _ w_377) (fun _ h9 => h9) rfl d_Mo_unblock_53 ?_
    refine lv_icmp_ge (tgt := 82) hx hb d_Mo_unblock_56 (by decide) (fun c_56 => ?_) (fun c_56 => ?_)
    · have hf := br_pos c_56 hf
      refine lv_aload_n hx hb d_Mo_unblock_82 rfl (lv_at hl 0 rfl) ?_
      refine va_get (D := (dC, dI)) (ci := 7) (v := .int won) (C := R_Mo) (T := T_Mo) (N := 21) hx hb hts w_359 hown hK hP 0 rfl rfl 4 (by decide) (hts _ w_377) (fun _ h9 => h9) rfl d_Mo_unblock_83 ?_
      cases hf
      exact s_iret hx hb hr hlocks hP hK hD hS d_Mo_unblock_86
    · have hf := br_neg c_56 hf
      refine lv_aload_n hx hb d_Mo_unblock_59 rfl (lv_at hl 0 rfl) ?_
      refine va_get (D := (dC, dI)) (ci := 7) (v := .ref wo) (C := R_Mo) (T := T_Mo) (N := 21) hx hb hts w_359 hown hK hP 0 rfl rfl 1 (by decide) (hts _ w_378) (fun _ h9 => h9) rfl d_Mo_unblock_60 ?_
      refine lv_iload_n hx hb d_Mo_unblock_63 rfl (lv_at hl 1 rfl) ?_
      refine lv_aload_n hx hb d_Mo_unblock_64 rfl (lv_at hl 0 rfl) ?_
      refine va_get (D := (dC, dI)) (ci := 7) (v := .ref wb) (C := R_Mo) (T := T_Mo) (N := 21) hx hb hts w_359 hown hK hP 0 rfl rfl 14 (by decide) (hts _ w_376) (fun _ h9 => h9) rfl d_Mo_unblock_65 ?_
      refine lv_aload_n hx hb d_Mo_unblock_68 rfl (lv_at hl 0 rfl) ?_
      refine va_get (D := (dC, dI)) (ci := 7) (v := .int whn) (C := R_Mo) (T := T_Mo) (N := 21) hx hb hts w_359 hown hK hP 0 rfl rfl 5 (by decide) (hts _ w_373) (fun _ h9 => h9) rfl d_Mo_unblock_69 ?_
      refine lv_iload_n hx hb d_Mo_unblock_72 rfl (lv_at hl 1 rfl) ?_
      refine lv_iadd hx hb d_Mo_unblock_73 ?_
      obtain ⟨h_in, hf⟩ := as_some hf
      refine va_iald hx hb hK hP 4 1 rfl rfl h_in d_Mo_unblock_74 ?_
      obtain ⟨h_in, hf⟩ := as_some hf
      refine va_iast hx hb hK hP hD hS 2 1 rfl rfl h_in d_Mo_unblock_75 (fun H locs hP hD hS => ?_)
      have hP : va_P (dC, dI) vwCl (wd_Mo_unblock w wi wo wh wb wd wm wp wc wl cB cI cJ win won whn wpl wdn wfo wmn wpn wbn wcn wat wnu wif (upd wof x3.toNatClampNeg (wbf (whn + x3).toNatClampNeg)) whf wbf) H := hP
      have hD : va_D A (wd_Mo_unblock w wi wo wh wb wd wm wp wc wl cB cI cJ win won whn wpl wdn wfo wmn wpn wbn wcn wat wnu wif (upd wof x3.toNatClampNeg (wbf (whn + x3).toNatClampNeg)) whf wbf) := hD
      refine lv_iinc (v := (x3 + 1)) (lv' := [(3, .int (x3 + 1)), (0, .ref w)]) hx hb d_Mo_unblock_76 hl (k := 1) rfl (congrArg (fun z => x3 + z) (by decide)) (by decide) rfl (fun ls hl => ?_)
      refine lv_goto (tgt := 51) hx hb d_Mo_unblock_79 (by decide) ?_
      exact ih51 (x3 + 1) (upd wof x3.toNatClampNeg (wbf (whn + x3).toNatClampNeg)) hf _ _ hP hD hS _ (lv_sub hl [1, 0] rfl)
noncomputable def j_Mo_unblock_0 (N : Nat) (x1 : Int32) (win : Int32) (won : Int32) (whn : Int32) (wpl : Int32) (wbn : Int32) (wat : Int32) (wnu : Int32) (wif : Nat → Int32) (wof : Nat → Int32) (whf : Nat → Int32) (wbf : Nat → Int32)  : Option (Int32 × Int32 × Int32 × Int32 × Int32 × Int32 × (Nat → Int32) × (Nat → Int32)) :=
  (if x1 < 0 then (some ((-4 : Int32), won, wpl, wbn, wat, wnu, wof, wbf) : Option (Int32 × Int32 × Int32 × Int32 × Int32 × Int32 × (Nat → Int32) × (Nat → Int32))) else (if x1 ≤ (8000 : Int32) then bd2 (f_Mo_beginBack N whn whf wbf) (fun wbn_15 wbf_15 => bd6 (f_Mo_readBlock N (0 : Int32) win x1 wpl wbn_15 wnu wif wbf_15) (fun r25 wpl_25 wbn_25 wat_25 wnu_25 wbf_25 => (if r25 ≤ 0 then (loop2 (b_Mo_unblock_51 (wbn_25 - whn) whn wpl_25 wbn_25 wat_25 wnu_25 wbf_25 ) N (0 : Int32) wof) else (some ((-r25), won, wpl_25, wbn_25, wat_25, wnu_25, wof, wbf_25) : Option (Int32 × Int32 × Int32 × Int32 × Int32 × Int32 × (Nat → Int32) × (Nat → Int32)))))) else (some ((-4 : Int32), won, wpl, wbn, wat, wnu, wof, wbf) : Option (Int32 × Int32 × Int32 × Int32 × Int32 × Int32 × (Nat → Int32) × (Nat → Int32)))))
set_option maxHeartbeats 4000000 in
set_option maxRecDepth 100000 in
theorem k_Mo_unblock_0 {r_z : Int32} {won_z : Int32} {wpl_z : Int32} {wbn_z : Int32} {wat_z : Int32} {wnu_z : Int32} {wof_z : Nat → Int32} {wbf_z : Nat → Int32} (C : Fx p s m args meth c cd_Mo_unblock 4 R_Mo lw_g (some .int)) (hK : va_K (dC, dI) vwCl [(cB, .byte), (cI, .int), (cJ, .long)] s) (hA : ∀ q, s.heap.size ≤ q → A q) (x1 : Int32) (win : Int32) (won : Int32) (whn : Int32) (wpl : Int32) (wdn : Int32) (wfo : Int32) (wmn : Int32) (wpn : Int32) (wbn : Int32) (wcn : Int32) (wat : Int32) (wnu : Int32) (wif : Nat → Int32) (wof : Nat → Int32) (whf : Nat → Int32) (wbf : Nat → Int32)  (hf : j_Mo_unblock_0 N x1 win won whn wpl wbn wat wnu wif wof whf wbf  = some (r_z, won_z, wpl_z, wbn_z, wat_z, wnu_z, wof_z, wbf_z)) (hP : va_P (dC, dI) vwCl (wd_Mo_unblock w wi wo wh wb wd wm wp wc wl cB cI cJ win won whn wpl wdn wfo wmn wpn wbn wcn wat wnu wif wof whf wbf) H) (hD : va_D A (wd_Mo_unblock w wi wo wh wb wd wm wp wc wl cB cI cJ win won whn wpl wdn wfo wmn wpn wbn wcn wat wnu wif wof whf wbf)) (hS : va_S A s.heap H locs) (hl : lv_has ls 4 [(0, .ref w), (1, .int x1)]) : W p l e rm_Mo_unblock s m args below meth c H locs 0 0 (MQ below (sQi (dC, dI) vwCl [(cB, .byte), (cI, .int), (cJ, .long)] A r_z (wd_Mo_unblock w wi wo wh wb wd wm wp wc wl cB cI cJ win won_z whn wpl_z wdn wfo wmn wpn wbn_z wcn wat_z wnu_z wif wof_z whf wbf_z)) args s 0 0 A) (F0 m 0 ls []) := by
  obtain ⟨hx, hb, hml, hown, hts, hr, hlocks, hZ⟩ := id C
  unfold j_Mo_unblock_0 at hf
  refine lv_iload_n hx hb d_Mo_unblock_0 rfl (lv_at hl 1 rfl) ?_
  refine lv_if_lt (tgt := 11) hx hb d_Mo_unblock_1 (by decide) (fun c_1 => ?_) (fun c_1 => ?_)
  · have hf := br_pos c_1 hf
    refine lv_bipush (v := -4) hx hb d_Mo_unblock_11 (by decide) ?_
    cases hf
    exact s_iret hx hb hr hlocks hP hK hD hS d_Mo_unblock_13
  · have hf := br_neg c_1 hf
    refine lv_iload_n hx hb d_Mo_unblock_4 rfl (lv_at hl 1 rfl) ?_
    refine lv_sipush (v := 8000) hx hb d_Mo_unblock_5 (by decide) ?_
    refine lv_icmp_le (tgt := 14) hx hb d_Mo_unblock_8 (by decide) (fun c_8 => ?_) (fun c_8 => ?_)
    · have hf := br_pos c_8 hf
      refine lv_aload_n hx hb d_Mo_unblock_14 rfl (lv_at hl 0 rfl) ?_
      obtain ⟨wbn_15, wbf_15, hc15, hf⟩ := bd2_some hf
      refine s_Vv (As := []) (rest := []) (wr := [(wi, .inl (cI, 8000, .inl wif)), (wo, .inl (cI, 8000, .inl wof))]) (ws' := wd_Mo_unblock w wi wo wh wb wd wm wp wc wl cB cI cJ win won whn wpl wdn wfo wmn wpn wbn_15 wcn wat wnu wif wof whf wbf_15) C.call (c_Mo_beginBack l dC dI cB cI cJ w wh wb wi wo wd wm wp wc wl  win won whn wpl wdn wfo wmn wpn wbn wcn wat wnu whf wbf  hc15) (cwV 0 hts (gd_V w_459 w_460 w_461 w_365 w_462) rfl rfl rfl ⟨rfl, hd_Mo_beginBack⟩ ⟨Nat.le_of_ble_eq_true rfl, Nat.le_of_ble_eq_true rfl⟩) rfl hl.1 rfl (Nat.le_of_ble_eq_true rfl) d_Mo_unblock_15 ⟨Nat.le_of_ble_eq_true rfl, Nat.le_of_ble_eq_true rfl⟩ hZ hK hP hD hS hA 7 0 rfl rfl [0, 3, 4] [1, 2] [2, 0, 1, 3, 4] rfl rfl rfl rfl (by decide) rfl rfl (fun H locs hP hD hS => ?_)
      refine lv_aload_n hx hb d_Mo_unblock_18 rfl (lv_at hl 0 rfl) ?_
      refine lv_iconst (v := 0) hx hb d_Mo_unblock_19 (by decide) ?_
      refine lv_aload_n hx hb d_Mo_unblock_20 rfl (lv_at hl 0 rfl) ?_
      refine va_get (D := (dC, dI)) (ci := 7) (v := .int win) (C := R_Mo) (T := T_Mo) (N := 21) hx hb hts w_359 hown hK hP 0 rfl rfl 3 (by decide) (hts _ w_370) (fun _ h9 => h9) rfl d_Mo_unblock_21 ?_
      refine lv_iload_n hx hb d_Mo_unblock_24 rfl (lv_at hl 1 rfl) ?_
      obtain ⟨r25, wpl_25, wbn_25, wat_25, wnu_25, wbf_25, hc25, hf⟩ := bd6_some hf
      refine s_Vi (As := [.int (0 : Int32), .int win, .int x1]) (rest := []) (wr := [(wo, .inl (cI, 8000, .inl wof)), (wh, .inl (cI, 8000, .inl whf))]) (ws' := wd_Mo_unblock w wi wo wh wb wd wm wp wc wl cB cI cJ win won whn wpl_25 wdn wfo wmn wpn wbn_25 wcn wat_25 wnu_25 wif wof whf wbf_25) C.call (c_Mo_readBlock l dC dI cB cI cJ w wi wb wo wh wd wm wp wc wl  win won whn wpl wdn wfo wmn wpn wbn_15 wcn wat wnu wif wbf_15 (0 : Int32) win x1 hc25) (cwV 3 hts (gd_V w_463 w_464 w_465 w_365 w_466) rfl rfl rfl ⟨rfl, hd_Mo_readBlock⟩ ⟨Nat.le_of_ble_eq_true rfl, Nat.le_of_ble_eq_true rfl⟩) rfl hl.1 rfl (Nat.le_of_ble_eq_true rfl) d_Mo_unblock_25 ⟨Nat.le_of_ble_eq_true rfl, Nat.le_of_ble_eq_true rfl⟩ hZ hK hP hD hS hA 7 0 rfl rfl [0, 1, 4] [2, 3] [2, 3, 0, 1, 4] rfl rfl rfl rfl (by decide) rfl rfl (fun H locs hP hD hS => ?_)
      refine lv_istore_n (lv' := [(2, .int r25), (0, .ref w), (1, .int x1)]) hx hb d_Mo_unblock_28 rfl hl (by decide) rfl (fun ls hl => ?_)
      refine lv_iload_n hx hb d_Mo_unblock_29 rfl (lv_at hl 0 rfl) ?_
      refine lv_if_le (tgt := 36) hx hb d_Mo_unblock_30 (by decide) (fun c_30 => ?_) (fun c_30 => ?_)
      · have hf := br_pos c_30 hf
        refine lv_aload_n hx hb d_Mo_unblock_36 rfl (lv_at hl 1 rfl) ?_
        refine lv_aload_n hx hb d_Mo_unblock_37 rfl (lv_at hl 1 rfl) ?_
        refine va_get (D := (dC, dI)) (ci := 7) (v := .int wbn_25) (C := R_Mo) (T := T_Mo) (N := 21) hx hb hts w_359 hown hK hP 0 rfl rfl 15 (by decide) (hts _ w_375) (fun _ h9 => h9) rfl d_Mo_unblock_38 ?_
        refine lv_aload_n hx hb d_Mo_unblock_41 rfl (lv_at hl 1 rfl) ?_
        refine va_get (D := (dC, dI)) (ci := 7) (v := .int whn) (C := R_Mo) (T := T_Mo) (N := 21) hx hb hts w_359 hown hK hP 0 rfl rfl 5 (by decide) (hts _ w_373) (fun _ h9 => h9) rfl d_Mo_unblock_42 ?_
        refine lv_isub hx hb d_Mo_unblock_45 ?_
        refine va_put (D := (dC, dI)) (ci := 7) (v := .int (wbn_25 - whn)) (ty := .int) (C := R_Mo) (T := T_Mo) (N := 21) hx hb hts w_359 ty_Mo ty_Mo_ok nm_Mo hown hK hP hD hS 0 rfl rfl 4 (by decide) (hts _ w_377) (fun _ h9 => h9) rfl (by decide +kernel) rfl rfl (Nat.le_of_ble_eq_true rfl) d_Mo_unblock_46 (fun H locs hP hD hS => ?_)
        have hP : va_P (dC, dI) vwCl (wd_Mo_unblock w wi wo wh wb wd wm wp wc wl cB cI cJ win (wbn_25 - whn) whn wpl_25 wdn wfo wmn wpn wbn_25 wcn wat_25 wnu_25 wif wof whf wbf_25) H := hP
        have hD : va_D A (wd_Mo_unblock w wi wo wh wb wd wm wp wc wl cB cI cJ win (wbn_25 - whn) whn wpl_25 wdn wfo wmn wpn wbn_25 wcn wat_25 wnu_25 wif wof whf wbf_25) := hD
        refine lv_iconst (v := 0) hx hb d_Mo_unblock_49 (by decide) ?_
        refine lv_istore_n (lv' := [(3, .int (0 : Int32)), (2, .int r25), (0, .ref w), (1, .int x1)]) hx hb d_Mo_unblock_50 rfl hl (by decide) rfl (fun ls hl => ?_)
        exact k_Mo_unblock_51 C hK hA win (wbn_25 - whn) whn wpl_25 wdn wfo wmn wpn wbn_25 wcn wat_25 wnu_25 wif whf wbf_25  N (0 : Int32) wof hf _ _ hP hD hS _ (lv_sub hl [2, 0] rfl)
      · have hf := br_neg c_30 hf
        refine lv_iload_n hx hb d_Mo_unblock_33 rfl (lv_at hl 0 rfl) ?_
        refine lv_ineg hx hb d_Mo_unblock_34 ?_
        cases hf
        exact s_iret hx hb hr hlocks hP hK hD hS d_Mo_unblock_35
    · have hf := br_neg c_8 hf
      refine lv_bipush (v := -4) hx hb d_Mo_unblock_11 (by decide) ?_
      cases hf
      exact s_iret hx hb hr hlocks hP hK hD hS d_Mo_unblock_13
end
noncomputable abbrev f_Mo_unblock (N : Nat) (x1 : Int32) (win : Int32) (won : Int32) (whn : Int32) (wpl : Int32) (wbn : Int32) (wat : Int32) (wnu : Int32) (wif : Nat → Int32) (wof : Nat → Int32) (whf : Nat → Int32) (wbf : Nat → Int32) : Option (Int32 × Int32 × Int32 × Int32 × Int32 × Int32 × (Nat → Int32) × (Nat → Int32)) := j_Mo_unblock_0 N x1 win won whn wpl wbn wat wnu wif wof whf wbf
set_option maxRecDepth 100000 in
theorem c_Mo_unblock {N : Nat} (l : Launch) (dC : Nat → ClassId) (dI : Nat → Nat → Nat) (cB cI cJ : ClassId) (w wi wo wh wb wd wm wp wc wl : Nat) (win : Int32) (won : Int32) (whn : Int32) (wpl : Int32) (wdn : Int32) (wfo : Int32) (wmn : Int32) (wpn : Int32) (wbn : Int32) (wcn : Int32) (wat : Int32) (wnu : Int32) (wif : Nat → Int32) (wof : Nat → Int32) (whf : Nat → Int32) (wbf : Nat → Int32) (x1 : Int32) {r_z : Int32} {won_z : Int32} {wpl_z : Int32} {wbn_z : Int32} {wat_z : Int32} {wnu_z : Int32} {wof_z : Nat → Int32} {wbf_z : Nat → Int32} (hf : f_Mo_unblock N x1 win won whn wpl wbn wat wnu wif wof whf wbf = some (r_z, won_z, wpl_z, wbn_z, wat_z, wnu_z, wof_z, wbf_z)) : MetI l y_Mo_unblock ws_Mo_unblock rm_Mo_unblock (dC, dI) vwCl [(cB, .byte), (cI, .int), (cJ, .long)] [.ref w, .int x1] (wd_Mo_unblock w wi wo wh wb wd wm wp wc wl cB cI cJ win won whn wpl wdn wfo wmn wpn wbn wcn wat wnu wif wof whf wbf) r_z (wd_Mo_unblock w wi wo wh wb wd wm wp wc wl cB cI cJ win won_z whn wpl_z wdn wfo wmn wpn wbn_z wcn wat_z wnu_z wif wof_z whf wbf_z) 0 0 :=
  s_ofi (bytes := cd_Mo_unblock) (maxL := 4) (ret := (some .int)) (by decide) rfl (Nat.le_of_ble_eq_true rfl) (fun p e s m below meth c A ls C hK hA hP hD hS hl => k_Mo_unblock_0 C hK hA x1 win won whn wpl wdn wfo wmn wpn wbn wcn wat wnu wif wof whf wbf hf hP hD hS (lv_sub hl [0, 1] rfl))
