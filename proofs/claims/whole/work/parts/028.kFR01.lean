abbrev wd_FR_readFlags (fr g ga t br : Nat) (cB cI cJ : ClassId) (q_at : Int32) (q_most : Int32) (q_flags : Int32) (q_great : Int32) (q_sizeAt : Int32) (q_start : Int32) (q_place : Int32) (gn : Int32) (gf : Nat → Int32) : va_W := [(fr, .inr (6, [.ref g, .ref t, .ref br, .int q_at, .int q_most, .int q_flags, .int q_great, .int q_sizeAt, .int q_start, .int q_place])), (g, .inr (1, [.ref ga, .int gn])), (ga, .inl (cB, 8000, .inl gf))]
abbrev rm_FR_readFlags : Room := { frames := 2, cells := 0, slots := 0, locals := 42 }
section
variable {p : Program} {l : Launch} {e : Env} {s : State} {m : MethodId} {args : Array Value} {below : List Frame} {meth : Method} {c : Code} {dC : Nat → ClassId} {dI : Nat → Nat → Nat} {A : Nat → Prop} {cB cI cJ : ClassId} {H : Heap} {locs : List Loc} {ls : Array Slot} {N : Nat} {fr g ga t br : Nat}
noncomputable def j_FR_readFlags_110 (q_at : Int32) (q_flags : Int32) (q_great : Int32)  : Option (Int32 × Int32 × Int32 × Int32 × Int32) :=
  bd2 (f_FR_fault (5 : Int32) q_at) (fun r116 q_place_116 => (some (r116, q_at, q_flags, q_great, q_place_116) : Option (Int32 × Int32 × Int32 × Int32 × Int32)))
set_option maxHeartbeats 4000000 in
set_option maxRecDepth 100000 in
theorem k_FR_readFlags_110 {r_z : Int32} {q_at_z : Int32} {q_flags_z : Int32} {q_great_z : Int32} {q_place_z : Int32} (C : Fx p s m args meth c cd_FR_readFlags 2 R_FR lw_g (some .int)) (hK : va_K (dC, dI) vwCl [(cB, .byte), (cI, .int), (cJ, .long)] s) (hA : ∀ q, s.heap.size ≤ q → A q) (q_at : Int32) (q_most : Int32) (q_flags : Int32) (q_great : Int32) (q_sizeAt : Int32) (q_start : Int32) (q_place : Int32) (gn : Int32) (gf : Nat → Int32)  (hf : j_FR_readFlags_110 q_at q_flags q_great  = some (r_z, q_at_z, q_flags_z, q_great_z, q_place_z)) (hP : va_P (dC, dI) vwCl (wd_FR_readFlags fr g ga t br cB cI cJ q_at q_most q_flags q_great q_sizeAt q_start q_place gn gf) H) (hD : va_D A (wd_FR_readFlags fr g ga t br cB cI cJ q_at q_most q_flags q_great q_sizeAt q_start q_place gn gf)) (hS : va_S A s.heap H locs) (hl : lv_has ls 2 [(0, .ref fr)]) : W p l e rm_FR_readFlags s m args below meth c H locs 0 0 (MQ below (sQi (dC, dI) vwCl [(cB, .byte), (cI, .int), (cJ, .long)] A r_z (wd_FR_readFlags fr g ga t br cB cI cJ q_at_z q_most q_flags_z q_great_z q_sizeAt q_start q_place_z gn gf)) args s 0 0 A) (F0 m 110 ls []) := by
  obtain ⟨hx, hb, hml, hown, hts, hr, hlocks, hZ⟩ := id C
  unfold j_FR_readFlags_110 at hf
  refine lv_aload_n hx hb d_FR_readFlags_110 rfl (lv_at hl 0 rfl) ?_
  refine lv_iconst (v := 5) hx hb d_FR_readFlags_111 (by decide) ?_
  refine lv_aload_n hx hb d_FR_readFlags_112 rfl (lv_at hl 0 rfl) ?_
  refine va_get (D := (dC, dI)) (ci := 6) (v := .int q_at) (C := R_FR) (T := T_FR) (N := 10) hx hb hts w_278 hown hK hP 0 rfl rfl 3 (by decide) (hts _ w_287) (fun _ h9 => h9) rfl d_FR_readFlags_113 ?_
  obtain ⟨r116, q_place_116, hc116, hf⟩ := bd2_some hf
  refine s_Vi (As := [.int (5 : Int32), .int q_at]) (rest := []) (wr := [(g, .inr (1, [.ref ga, .int gn])), (ga, .inl (cB, 8000, .inl gf))]) (ws' := wd_FR_readFlags fr g ga t br cB cI cJ q_at q_most q_flags q_great q_sizeAt q_start q_place_116 gn gf) C.call (c_FR_fault l dC dI cB cI cJ fr g t br  q_at q_most q_flags q_great q_sizeAt q_start q_place (5 : Int32) q_at hc116) (cwV 2 hts (gd_V w_282 w_283 w_284 w_285 w_286) rfl rfl rfl ⟨rfl, hd_FR_fault⟩ ⟨Nat.le_of_ble_eq_true rfl, Nat.le_of_ble_eq_true rfl⟩) rfl hl.1 rfl (Nat.le_of_ble_eq_true rfl) d_FR_readFlags_116 ⟨Nat.le_of_ble_eq_true rfl, Nat.le_of_ble_eq_true rfl⟩ hZ hK hP hD hS hA 6 0 rfl rfl [0] [1, 2] [2, 0, 1] rfl rfl rfl rfl (by decide) rfl rfl (fun H locs hP hD hS => ?_)
  cases hf
  exact s_iret hx hb hr hlocks hP hK hD hS d_FR_readFlags_119
noncomputable def j_FR_readFlags_0 (q_at : Int32) (q_flags : Int32) (q_great : Int32) (q_place : Int32) (gn : Int32) (gf : Nat → Int32)  : Option (Int32 × Int32 × Int32 × Int32 × Int32) :=
  bd1 (f_FR_left q_at gn) (fun r1 => (if (1 : Int32) ≤ r1 then bd1 (f_Row_get 8000 q_at gn gf) (fun r22 => bd1 (f_T_areFlags r22) (fun r32 => (if r32 = 0 then bd2 (f_FR_fault (5 : Int32) q_at) (fun r44 q_place_44 => (some (r44, q_at, r22, q_great, q_place_44) : Option (Int32 × Int32 × Int32 × Int32 × Int32))) else bd1 (f_FR_left (q_at + (1 : Int32)) gn) (fun r59 => (if (1 : Int32) ≤ r59 then bd1 (f_Row_get 8000 (q_at + (1 : Int32)) gn gf) (fun r79 => bd1 (f_T_isK (r79 >>> ((4 : Int32) &&& 31))) (fun r86 => (if r86 = 0 then (j_FR_readFlags_110 (q_at + (1 : Int32)) r22 q_great ) else bd1 (f_Row_get 8000 (q_at + (1 : Int32)) gn gf) (fun r100 => (if r100 = ((16 : Int32) * (r79 >>> ((4 : Int32) &&& 31))) then (some ((0 : Int32), ((q_at + (1 : Int32)) + (1 : Int32)), r22, ((1 : Int32) <<< (((8 : Int32) + ((2 : Int32) * (r79 >>> ((4 : Int32) &&& 31)))) &&& 31)), q_place) : Option (Int32 × Int32 × Int32 × Int32 × Int32)) else (j_FR_readFlags_110 (q_at + (1 : Int32)) r22 q_great )))))) else bd2 (f_FR_cut gn) (fun r67 q_place_67 => (some (r67, (q_at + (1 : Int32)), r22, q_great, q_place_67) : Option (Int32 × Int32 × Int32 × Int32 × Int32)))))))) else bd2 (f_FR_cut gn) (fun r9 q_place_9 => (some (r9, q_at, q_flags, q_great, q_place_9) : Option (Int32 × Int32 × Int32 × Int32 × Int32)))))
set_option maxHeartbeats 4000000 in
set_option maxRecDepth 100000 in
theorem k_FR_readFlags_0 {r_z : Int32} {q_at_z : Int32} {q_flags_z : Int32} {q_great_z : Int32} {q_place_z : Int32} (C : Fx p s m args meth c cd_FR_readFlags 2 R_FR lw_g (some .int)) (hK : va_K (dC, dI) vwCl [(cB, .byte), (cI, .int), (cJ, .long)] s) (hA : ∀ q, s.heap.size ≤ q → A q) (q_at : Int32) (q_most : Int32) (q_flags : Int32) (q_great : Int32) (q_sizeAt : Int32) (q_start : Int32) (q_place : Int32) (gn : Int32) (gf : Nat → Int32)  (hf : j_FR_readFlags_0 q_at q_flags q_great q_place gn gf  = some (r_z, q_at_z, q_flags_z, q_great_z, q_place_z)) (hP : va_P (dC, dI) vwCl (wd_FR_readFlags fr g ga t br cB cI cJ q_at q_most q_flags q_great q_sizeAt q_start q_place gn gf) H) (hD : va_D A (wd_FR_readFlags fr g ga t br cB cI cJ q_at q_most q_flags q_great q_sizeAt q_start q_place gn gf)) (hS : va_S A s.heap H locs) (hl : lv_has ls 2 [(0, .ref fr)]) : W p l e rm_FR_readFlags s m args below meth c H locs 0 0 (MQ below (sQi (dC, dI) vwCl [(cB, .byte), (cI, .int), (cJ, .long)] A r_z (wd_FR_readFlags fr g ga t br cB cI cJ q_at_z q_most q_flags_z q_great_z q_sizeAt q_start q_place_z gn gf)) args s 0 0 A) (F0 m 0 ls []) := by
  obtain ⟨hx, hb, hml, hown, hts, hr, hlocks, hZ⟩ := id C
  unfold j_FR_readFlags_0 at hf
  refine lv_aload_n hx hb d_FR_readFlags_0 rfl (lv_at hl 0 rfl) ?_
  obtain ⟨r1, hc1, hf⟩ := bd1_some hf
  refine s_Vi (As := []) (rest := []) (wr := [(ga, .inl (cB, 8000, .inl gf))]) (ws' := wd_FR_readFlags fr g ga t br cB cI cJ q_at q_most q_flags q_great q_sizeAt q_start q_place gn gf) C.call (c_FR_left l dC dI cB cI cJ fr g t br ga  q_at q_most q_flags q_great q_sizeAt q_start q_place gn  hc1) (cwV 0 hts (gd_V w_288 w_289 w_290 w_285 w_291) rfl rfl rfl ⟨rfl, hd_FR_left⟩ ⟨Nat.le_of_ble_eq_true rfl, Nat.le_of_ble_eq_true rfl⟩) rfl hl.1 rfl (Nat.le_of_ble_eq_true rfl) d_FR_readFlags_1 ⟨Nat.le_of_ble_eq_true rfl, Nat.le_of_ble_eq_true rfl⟩ hZ hK hP hD hS hA 6 0 rfl rfl [0, 1] [2] [1, 2, 0] rfl rfl rfl rfl (by decide) rfl rfl (fun H locs hP hD hS => ?_)
  refine lv_iconst (v := 1) hx hb d_FR_readFlags_4 (by decide) ?_
  refine lv_icmp_ge (tgt := 13) hx hb d_FR_readFlags_5 (by decide) (fun c_5 => ?_) (fun c_5 => ?_)
  · have hf := br_pos c_5 hf
    refine lv_aload_n hx hb d_FR_readFlags_13 rfl (lv_at hl 0 rfl) ?_
    refine lv_aload_n hx hb d_FR_readFlags_14 rfl (lv_at hl 0 rfl) ?_
    refine va_get (D := (dC, dI)) (ci := 6) (v := .ref g) (C := R_FR) (T := T_FR) (N := 10) hx hb hts w_278 hown hK hP 0 rfl rfl 0 (by decide) (hts _ w_280) (fun _ h9 => h9) rfl d_FR_readFlags_15 ?_
    refine lv_aload_n hx hb d_FR_readFlags_18 rfl (lv_at hl 0 rfl) ?_
    refine va_get (D := (dC, dI)) (ci := 6) (v := .int q_at) (C := R_FR) (T := T_FR) (N := 10) hx hb hts w_278 hown hK hP 0 rfl rfl 3 (by decide) (hts _ w_287) (fun _ h9 => h9) rfl d_FR_readFlags_19 ?_
    obtain ⟨r22, hc22, hf⟩ := bd1_some hf
    refine s_Vi (As := [.int q_at]) (rest := [.ref fr]) (wr := [(fr, .inr (6, [.ref g, .ref t, .ref br, .int q_at, .int q_most, .int q_flags, .int q_great, .int q_sizeAt, .int q_start, .int q_place]))]) (ws' := wd_FR_readFlags fr g ga t br cB cI cJ q_at q_most q_flags q_great q_sizeAt q_start q_place gn gf) C.call (c_Row_get l dC dI cB cI cJ g ga 8000 gn gf q_at hc22) (cwV 1 hts (gd_V w_317 w_80 w_81 w_12 w_82) rfl rfl rfl ⟨rfl, hd_Row_get⟩ ⟨Nat.le_of_ble_eq_true rfl, Nat.le_of_ble_eq_true rfl⟩) rfl hl.1 rfl (Nat.le_of_ble_eq_true rfl) d_FR_readFlags_22 ⟨Nat.le_of_ble_eq_true rfl, Nat.le_of_ble_eq_true rfl⟩ hZ hK hP hD hS hA 1 1 rfl rfl [1, 2] [0] [0, 1, 2] rfl rfl rfl rfl (by decide) rfl rfl (fun H locs hP hD hS => ?_)
    refine va_put (D := (dC, dI)) (ci := 6) (v := .int r22) (ty := .int) (C := R_FR) (T := T_FR) (N := 10) hx hb hts w_278 ty_FR ty_FR_ok nm_FR hown hK hP hD hS 0 rfl rfl 5 (by decide) (hts _ w_298) (fun _ h9 => h9) rfl (by decide +kernel) rfl rfl (Nat.le_of_ble_eq_true rfl) d_FR_readFlags_25 (fun H locs hP hD hS => ?_)
    have hP : va_P (dC, dI) vwCl (wd_FR_readFlags fr g ga t br cB cI cJ q_at q_most r22 q_great q_sizeAt q_start q_place gn gf) H := hP
    have hD : va_D A (wd_FR_readFlags fr g ga t br cB cI cJ q_at q_most r22 q_great q_sizeAt q_start q_place gn gf) := hD
    refine lv_aload_n hx hb d_FR_readFlags_28 rfl (lv_at hl 0 rfl) ?_
    refine va_get (D := (dC, dI)) (ci := 6) (v := .int r22) (C := R_FR) (T := T_FR) (N := 10) hx hb hts w_278 hown hK hP 0 rfl rfl 5 (by decide) (hts _ w_298) (fun _ h9 => h9) rfl d_FR_readFlags_29 ?_
    obtain ⟨r32, hc32, hf⟩ := bd1_some hf
    refine s_SNi (As := [.int r22]) (rest := []) (wr := [(fr, .inr (6, [.ref g, .ref t, .ref br, .int q_at, .int q_most, .int r22, .int q_great, .int q_sizeAt, .int q_start, .int q_place])), (g, .inr (1, [.ref ga, .int gn])), (ga, .inl (cB, 8000, .inl gf))]) (ws' := wd_FR_readFlags fr g ga t br cB cI cJ q_at q_most r22 q_great q_sizeAt q_start q_place gn gf) C.call (c_T_areFlags l dC dI cB cI cJ    r22 hc32) ⟨va_cnB 1 hts (gd_c w_214) rfl rfl rfl (hZ _ nw_0) (hts _ w_129) hd_T_areFlags ⟨Nat.le_of_ble_eq_true rfl, Nat.le_of_ble_eq_true rfl⟩, (hts _ w_213), trivial⟩ rfl hl.1 rfl (Nat.le_of_ble_eq_true rfl) d_FR_readFlags_32 ⟨Nat.le_of_ble_eq_true rfl, Nat.le_of_ble_eq_true rfl⟩ hZ hK hP hD hS hA [] [0, 1, 2] [0, 1, 2] rfl rfl rfl rfl (by decide) rfl rfl (fun H locs hP hD hS => ?_)
    refine lv_if_ne (tgt := 48) hx hb d_FR_readFlags_35 (by decide) (fun c_35 => ?_) (fun c_35 => ?_)
    · have hf := br_neg c_35 hf
      refine lv_aload_n hx hb d_FR_readFlags_48 rfl (lv_at hl 0 rfl) ?_
      refine lv_dup hx hb d_FR_readFlags_49 rfl ?_
      refine va_get (D := (dC, dI)) (ci := 6) (v := .int q_at) (C := R_FR) (T := T_FR) (N := 10) hx hb hts w_278 hown hK hP 0 rfl rfl 3 (by decide) (hts _ w_287) (fun _ h9 => h9) rfl d_FR_readFlags_50 ?_
      refine lv_iconst (v := 1) hx hb d_FR_readFlags_53 (by decide) ?_
      refine lv_iadd hx hb d_FR_readFlags_54 ?_
      refine va_put (D := (dC, dI)) (ci := 6) (v := .int (q_at + (1 : Int32))) (ty := .int) (C := R_FR) (T := T_FR) (N := 10) hx hb hts w_278 ty_FR ty_FR_ok nm_FR hown hK hP hD hS 0 rfl rfl 3 (by decide) (hts _ w_287) (fun _ h9 => h9) rfl (by decide +kernel) rfl rfl (Nat.le_of_ble_eq_true rfl) d_FR_readFlags_55 (fun H locs hP hD hS => ?_)
      have hP : va_P (dC, dI) vwCl (wd_FR_readFlags fr g ga t br cB cI cJ (q_at + (1 : Int32)) q_most r22 q_great q_sizeAt q_start q_place gn gf) H := hP
      have hD : va_D A (wd_FR_readFlags fr g ga t br cB cI cJ (q_at + (1 : Int32)) q_most r22 q_great q_sizeAt q_start q_place gn gf) := hD
      refine lv_aload_n hx hb d_FR_readFlags_58 rfl (lv_at hl 0 rfl) ?_
      obtain ⟨r59, hc59, hf⟩ := bd1_some hf
      refine s_Vi (As := []) (rest := []) (wr := [(ga, .inl (cB, 8000, .inl gf))]) (ws' := wd_FR_readFlags fr g ga t br cB cI cJ (q_at + (1 : Int32)) q_most r22 q_great q_sizeAt q_start q_place gn gf) C.call (c_FR_left l dC dI cB cI cJ fr g t br ga  (q_at + (1 : Int32)) q_most r22 q_great q_sizeAt q_start q_place gn  hc59) (cwV 0 hts (gd_V w_288 w_289 w_290 w_285 w_291) rfl rfl rfl ⟨rfl, hd_FR_left⟩ ⟨Nat.le_of_ble_eq_true rfl, Nat.le_of_ble_eq_true rfl⟩) rfl hl.1 rfl (Nat.le_of_ble_eq_true rfl) d_FR_readFlags_59 ⟨Nat.le_of_ble_eq_true rfl, Nat.le_of_ble_eq_true rfl⟩ hZ hK hP hD hS hA 6 0 rfl rfl [0, 1] [2] [1, 2, 0] rfl rfl rfl rfl (by decide) rfl rfl (fun H locs hP hD hS => ?_)
      refine lv_iconst (v := 1) hx hb d_FR_readFlags_62 (by decide) ?_
      refine lv_icmp_ge (tgt := 71) hx hb d_FR_readFlags_63 (by decide) (fun c_63 => ?_) (fun c_63 => ?_)
      · have hf := br_pos c_63 hf
        refine lv_aload_n hx hb d_FR_readFlags_71 rfl (lv_at hl 0 rfl) ?_
        refine va_get (D := (dC, dI)) (ci := 6) (v := .ref g) (C := R_FR) (T := T_FR) (N := 10) hx hb hts w_278 hown hK hP 0 rfl rfl 0 (by decide) (hts _ w_280) (fun _ h9 => h9) rfl d_FR_readFlags_72 ?_
        refine lv_aload_n hx hb d_FR_readFlags_75 rfl (lv_at hl 0 rfl) ?_
        refine va_get (D := (dC, dI)) (ci := 6) (v := .int (q_at + (1 : Int32))) (C := R_FR) (T := T_FR) (N := 10) hx hb hts w_278 hown hK hP 0 rfl rfl 3 (by decide) (hts _ w_287) (fun _ h9 => h9) rfl d_FR_readFlags_76 ?_
        obtain ⟨r79, hc79, hf⟩ := bd1_some hf
        refine s_Vi (As := [.int (q_at + (1 : Int32))]) (rest := []) (wr := [(fr, .inr (6, [.ref g, .ref t, .ref br, .int (q_at + (1 : Int32)), .int q_most, .int r22, .int q_great, .int q_sizeAt, .int q_start, .int q_place]))]) (ws' := wd_FR_readFlags fr g ga t br cB cI cJ (q_at + (1 : Int32)) q_most r22 q_great q_sizeAt q_start q_place gn gf) C.call (c_Row_get l dC dI cB cI cJ g ga 8000 gn gf (q_at + (1 : Int32)) hc79) (cwV 1 hts (gd_V w_317 w_80 w_81 w_12 w_82) rfl rfl rfl ⟨rfl, hd_Row_get⟩ ⟨Nat.le_of_ble_eq_true rfl, Nat.le_of_ble_eq_true rfl⟩) rfl hl.1 rfl (Nat.le_of_ble_eq_true rfl) d_FR_readFlags_79 ⟨Nat.le_of_ble_eq_true rfl, Nat.le_of_ble_eq_true rfl⟩ hZ hK hP hD hS hA 1 1 rfl rfl [1, 2] [0] [0, 1, 2] rfl rfl rfl rfl (by decide) rfl rfl (fun H locs hP hD hS => ?_)
        refine lv_iconst (v := 4) hx hb d_FR_readFlags_82 (by decide) ?_
        refine lv_ishr hx hb d_FR_readFlags_83 ?_
        refine lv_istore_n (lv' := [(1, .int (r79 >>> ((4 : Int32) &&& 31))), (0, .ref fr)]) hx hb d_FR_readFlags_84 rfl hl (by decide) rfl (fun ls hl => ?_)
        refine lv_iload_n hx hb d_FR_readFlags_85 rfl (lv_at hl 0 rfl) ?_
        obtain ⟨r86, hc86, hf⟩ := bd1_some hf
        refine s_SNi (As := [.int (r79 >>> ((4 : Int32) &&& 31))]) (rest := []) (wr := [(fr, .inr (6, [.ref g, .ref t, .ref br, .int (q_at + (1 : Int32)), .int q_most, .int r22, .int q_great, .int q_sizeAt, .int q_start, .int q_place])), (g, .inr (1, [.ref ga, .int gn])), (ga, .inl (cB, 8000, .inl gf))]) (ws' := wd_FR_readFlags fr g ga t br cB cI cJ (q_at + (1 : Int32)) q_most r22 q_great q_sizeAt q_start q_place gn gf) C.call (c_T_isK l dC dI cB cI cJ    (r79 >>> ((4 : Int32) &&& 31)) hc86) ⟨va_cnB 1 hts (gd_c w_217) rfl rfl rfl (hZ _ nw_1) (hts _ w_129) hd_T_isK ⟨Nat.le_of_ble_eq_true rfl, Nat.le_of_ble_eq_true rfl⟩, (hts _ w_216), trivial⟩ rfl hl.1 rfl (Nat.le_of_ble_eq_true rfl) d_FR_readFlags_86 ⟨Nat.le_of_ble_eq_true rfl, Nat.le_of_ble_eq_true rfl⟩ hZ hK hP hD hS hA [] [0, 1, 2] [0, 1, 2] rfl rfl rfl rfl (by decide) rfl rfl (fun H locs hP hD hS => ?_)
        refine lv_if_eq (tgt := 110) hx hb d_FR_readFlags_89 (by decide) (fun c_89 => ?_) (fun c_89 => ?_)
        · have hf := br_pos c_89 hf
          exact k_FR_readFlags_110 C hK hA (q_at + (1 : Int32)) q_most r22 q_great q_sizeAt q_start q_place gn gf  hf hP hD hS (lv_sub hl [1] rfl)
        · have hf := br_neg c_89 hf
          refine lv_aload_n hx hb d_FR_readFlags_92 rfl (lv_at hl 1 rfl) ?_
          refine va_get (D := (dC, dI)) (ci := 6) (v := .ref g) (C := R_FR) (T := T_FR) (N := 10) hx hb hts w_278 hown hK hP 0 rfl rfl 0 (by decide) (hts _ w_280) (fun _ h9 => h9) rfl d_FR_readFlags_93 ?_
          refine lv_aload_n hx hb d_FR_readFlags_96 rfl (lv_at hl 1 rfl) ?_
          refine va_get (D := (dC, dI)) (ci := 6) (v := .int (q_at + (1 : Int32))) (C := R_FR) (T := T_FR) (N := 10) hx hb hts w_278 hown hK hP 0 rfl rfl 3 (by decide) (hts _ w_287) (fun _ h9 => h9) rfl d_FR_readFlags_97 ?_
          obtain ⟨r100, hc100, hf⟩ := bd1_some hf
          refine s_Vi (As := [.int (q_at + (1 : Int32))]) (rest := []) (wr := [(fr, .inr (6, [.ref g, .ref t, .ref br, .int (q_at + (1 : Int32)), .int q_most, .int r22, .int q_great, .int q_sizeAt, .int q_start, .int q_place]))]) (ws' := wd_FR_readFlags fr g ga t br cB cI cJ (q_at + (1 : Int32)) q_most r22 q_great q_sizeAt q_start q_place gn gf) C.call (c_Row_get l dC dI cB cI cJ g ga 8000 gn gf (q_at + (1 : Int32)) hc100) (cwV 1 hts (gd_V w_317 w_80 w_81 w_12 w_82) rfl rfl rfl ⟨rfl, hd_Row_get⟩ ⟨Nat.le_of_ble_eq_true rfl, Nat.le_of_ble_eq_true rfl⟩) rfl hl.1 rfl (Nat.le_of_ble_eq_true rfl) d_FR_readFlags_100 ⟨Nat.le_of_ble_eq_true rfl, Nat.le_of_ble_eq_true rfl⟩ hZ hK hP hD hS hA 1 1 rfl rfl [1, 2] [0] [0, 1, 2] rfl rfl rfl rfl (by decide) rfl rfl (fun H locs hP hD hS => ?_)
          refine lv_bipush (v := 16) hx hb d_FR_readFlags_103 (by decide) ?_
          refine lv_iload_n hx hb d_FR_readFlags_105 rfl (lv_at hl 0 rfl) ?_
          refine lv_imul hx hb d_FR_readFlags_106 ?_
          refine lv_icmp_eq (tgt := 120) hx hb d_FR_readFlags_107 (by decide) (fun c_107 => ?_) (fun c_107 => ?_)
          · have hf := br_pos c_107 hf
            refine lv_aload_n hx hb d_FR_readFlags_120 rfl (lv_at hl 1 rfl) ?_
            refine lv_dup hx hb d_FR_readFlags_121 rfl ?_
            refine va_get (D := (dC, dI)) (ci := 6) (v := .int (q_at + (1 : Int32))) (C := R_FR) (T := T_FR) (N := 10) hx hb hts w_278 hown hK hP 0 rfl rfl 3 (by decide) (hts _ w_287) (fun _ h9 => h9) rfl d_FR_readFlags_122 ?_
            refine lv_iconst (v := 1) hx hb d_FR_readFlags_125 (by decide) ?_
            refine lv_iadd hx hb d_FR_readFlags_126 ?_
            refine va_put (D := (dC, dI)) (ci := 6) (v := .int ((q_at + (1 : Int32)) + (1 : Int32))) (ty := .int) (C := R_FR) (T := T_FR) (N := 10) hx hb hts w_278 ty_FR ty_FR_ok nm_FR hown hK hP hD hS 0 rfl rfl 3 (by decide) (hts _ w_287) (fun _ h9 => h9) rfl (by decide +kernel) rfl rfl (Nat.le_of_ble_eq_true rfl) d_FR_readFlags_127 (fun H locs hP hD hS => ?_)
            have hP : va_P (dC, dI) vwCl (wd_FR_readFlags fr g ga t br cB cI cJ ((q_at + (1 : Int32)) + (1 : Int32)) q_most r22 q_great q_sizeAt q_start q_place gn gf) H := hP
            have hD : va_D A (wd_FR_readFlags fr g ga t br cB cI cJ ((q_at + (1 : Int32)) + (1 : Int32)) q_most r22 q_great q_sizeAt q_start q_place gn gf) := hD
            refine lv_aload_n hx hb d_FR_readFlags_130 rfl (lv_at hl 1 rfl) ?_
            refine lv_iconst (v := 1) hx hb d_FR_readFlags_131 (by decide) ?_
            refine lv_bipush (v := 8) hx hb d_FR_readFlags_132 (by decide) ?_
            refine lv_iconst (v := 2) hx hb d_FR_readFlags_134 (by decide) ?_
            refine lv_iload_n hx hb d_FR_readFlags_135 rfl (lv_at hl 0 rfl) ?_
            refine lv_imul hx hb d_FR_readFlags_136 ?_
            refine lv_iadd hx hb d_FR_readFlags_137 ?_
            refine lv_ishl hx hb d_FR_readFlags_138 ?_
            refine va_put (D := (dC, dI)) (ci := 6) (v := .int ((1 : Int32) <<< (((8 : Int32) + ((2 : Int32) * (r79 >>> ((4 : Int32) &&& 31)))) &&& 31))) (ty := .int) (C := R_FR) (T := T_FR) (N := 10) hx hb hts w_278 ty_FR ty_FR_ok nm_FR hown hK hP hD hS 0 rfl rfl 6 (by decide) (hts _ w_303) (fun _ h9 => h9) rfl (by decide +kernel) rfl rfl (Nat.le_of_ble_eq_true rfl) d_FR_readFlags_139 (fun H locs hP hD hS => ?_)
            have hP : va_P (dC, dI) vwCl (wd_FR_readFlags fr g ga t br cB cI cJ ((q_at + (1 : Int32)) + (1 : Int32)) q_most r22 ((1 : Int32) <<< (((8 : Int32) + ((2 : Int32) * (r79 >>> ((4 : Int32) &&& 31)))) &&& 31)) q_sizeAt q_start q_place gn gf) H := hP
            have hD : va_D A (wd_FR_readFlags fr g ga t br cB cI cJ ((q_at + (1 : Int32)) + (1 : Int32)) q_most r22 ((1 : Int32) <<< (((8 : Int32) + ((2 : Int32) * (r79 >>> ((4 : Int32) &&& 31)))) &&& 31)) q_sizeAt q_start q_place gn gf) := hD
            refine lv_iconst (v := 0) hx hb d_FR_readFlags_142 (by decide) ?_
            cases hf
            exact s_iret hx hb hr hlocks hP hK hD hS d_FR_readFlags_143
          · have hf := br_neg c_107 hf
            exact k_FR_readFlags_110 C hK hA (q_at + (1 : Int32)) q_most r22 q_great q_sizeAt q_start q_place gn gf  hf hP hD hS (lv_sub hl [1] rfl)
      · have hf := br_neg c_63 hf
        refine lv_aload_n hx hb d_FR_readFlags_66 rfl (lv_at hl 0 rfl) ?_
        obtain ⟨r67, q_place_67, hc67, hf⟩ := bd2_some hf
        refine s_Vi (As := []) (rest := []) (wr := [(ga, .inl (cB, 8000, .inl gf))]) (ws' := wd_FR_readFlags fr g ga t br cB cI cJ (q_at + (1 : Int32)) q_most r22 q_great q_sizeAt q_start q_place_67 gn gf) C.call (c_FR_cut l dC dI cB cI cJ fr g t br ga  (q_at + (1 : Int32)) q_most r22 q_great q_sizeAt q_start q_place gn  hc67) (cwV 0 hts (gd_V w_294 w_295 w_296 w_285 w_297) rfl rfl rfl ⟨rfl, hd_FR_cut⟩ ⟨Nat.le_of_ble_eq_true rfl, Nat.le_of_ble_eq_true rfl⟩) rfl hl.1 rfl (Nat.le_of_ble_eq_true rfl) d_FR_readFlags_67 ⟨Nat.le_of_ble_eq_true rfl, Nat.le_of_ble_eq_true rfl⟩ hZ hK hP hD hS hA 6 0 rfl rfl [0, 1] [2] [1, 2, 0] rfl rfl rfl rfl (by decide) rfl rfl (fun H locs hP hD hS => ?_)
        cases hf
        exact s_iret hx hb hr hlocks hP hK hD hS d_FR_readFlags_70
    · have hf := br_pos c_35 hf
      refine lv_aload_n hx hb d_FR_readFlags_38 rfl (lv_at hl 0 rfl) ?_
      refine lv_iconst (v := 5) hx hb d_FR_readFlags_39 (by decide) ?_
      refine lv_aload_n hx hb d_FR_readFlags_40 rfl (lv_at hl 0 rfl) ?_
      refine va_get (D := (dC, dI)) (ci := 6) (v := .int q_at) (C := R_FR) (T := T_FR) (N := 10) hx hb hts w_278 hown hK hP 0 rfl rfl 3 (by decide) (hts _ w_287) (fun _ h9 => h9) rfl d_FR_readFlags_41 ?_
      obtain ⟨r44, q_place_44, hc44, hf⟩ := bd2_some hf
      refine s_Vi (As := [.int (5 : Int32), .int q_at]) (rest := []) (wr := [(g, .inr (1, [.ref ga, .int gn])), (ga, .inl (cB, 8000, .inl gf))]) (ws' := wd_FR_readFlags fr g ga t br cB cI cJ q_at q_most r22 q_great q_sizeAt q_start q_place_44 gn gf) C.call (c_FR_fault l dC dI cB cI cJ fr g t br  q_at q_most r22 q_great q_sizeAt q_start q_place (5 : Int32) q_at hc44) (cwV 2 hts (gd_V w_282 w_283 w_284 w_285 w_286) rfl rfl rfl ⟨rfl, hd_FR_fault⟩ ⟨Nat.le_of_ble_eq_true rfl, Nat.le_of_ble_eq_true rfl⟩) rfl hl.1 rfl (Nat.le_of_ble_eq_true rfl) d_FR_readFlags_44 ⟨Nat.le_of_ble_eq_true rfl, Nat.le_of_ble_eq_true rfl⟩ hZ hK hP hD hS hA 6 0 rfl rfl [0] [1, 2] [2, 0, 1] rfl rfl rfl rfl (by decide) rfl rfl (fun H locs hP hD hS => ?_)
      cases hf
      exact s_iret hx hb hr hlocks hP hK hD hS d_FR_readFlags_47
  · have hf := br_neg c_5 hf
    refine lv_aload_n hx hb d_FR_readFlags_8 rfl (lv_at hl 0 rfl) ?_
    obtain ⟨r9, q_place_9, hc9, hf⟩ := bd2_some hf
    refine s_Vi (As := []) (rest := []) (wr := [(ga, .inl (cB, 8000, .inl gf))]) (ws' := wd_FR_readFlags fr g ga t br cB cI cJ q_at q_most q_flags q_great q_sizeAt q_start q_place_9 gn gf) C.call (c_FR_cut l dC dI cB cI cJ fr g t br ga  q_at q_most q_flags q_great q_sizeAt q_start q_place gn  hc9) (cwV 0 hts (gd_V w_294 w_295 w_296 w_285 w_297) rfl rfl rfl ⟨rfl, hd_FR_cut⟩ ⟨Nat.le_of_ble_eq_true rfl, Nat.le_of_ble_eq_true rfl⟩) rfl hl.1 rfl (Nat.le_of_ble_eq_true rfl) d_FR_readFlags_9 ⟨Nat.le_of_ble_eq_true rfl, Nat.le_of_ble_eq_true rfl⟩ hZ hK hP hD hS hA 6 0 rfl rfl [0, 1] [2] [1, 2, 0] rfl rfl rfl rfl (by decide) rfl rfl (fun H locs hP hD hS => ?_)
    cases hf
    exact s_iret hx hb hr hlocks hP hK hD hS d_FR_readFlags_12
end
noncomputable abbrev f_FR_readFlags (q_at : Int32) (q_flags : Int32) (q_great : Int32) (q_place : Int32) (gn : Int32) (gf : Nat → Int32) : Option (Int32 × Int32 × Int32 × Int32 × Int32) := j_FR_readFlags_0 q_at q_flags q_great q_place gn gf
set_option maxRecDepth 100000 in
theorem c_FR_readFlags (l : Launch) (dC : Nat → ClassId) (dI : Nat → Nat → Nat) (cB cI cJ : ClassId) (fr g ga t br : Nat) (q_at : Int32) (q_most : Int32) (q_flags : Int32) (q_great : Int32) (q_sizeAt : Int32) (q_start : Int32) (q_place : Int32) (gn : Int32) (gf : Nat → Int32)  {r_z : Int32} {q_at_z : Int32} {q_flags_z : Int32} {q_great_z : Int32} {q_place_z : Int32} (hf : f_FR_readFlags q_at q_flags q_great q_place gn gf = some (r_z, q_at_z, q_flags_z, q_great_z, q_place_z)) : MetI l y_FR_readFlags ws_FR_readFlags rm_FR_readFlags (dC, dI) vwCl [(cB, .byte), (cI, .int), (cJ, .long)] [.ref fr] (wd_FR_readFlags fr g ga t br cB cI cJ q_at q_most q_flags q_great q_sizeAt q_start q_place gn gf) r_z (wd_FR_readFlags fr g ga t br cB cI cJ q_at_z q_most q_flags_z q_great_z q_sizeAt q_start q_place_z gn gf) 0 0 :=
  s_ofi (bytes := cd_FR_readFlags) (maxL := 2) (ret := (some .int)) (by decide) rfl (Nat.le_of_ble_eq_true rfl) (fun p e s m below meth c A ls C hK hA hP hD hS hl => k_FR_readFlags_0 C hK hA q_at q_most q_flags q_great q_sizeAt q_start q_place gn gf hf hP hD hS (lv_sub hl [0] rfl))

abbrev wd_FR_readHead (fr g ga t br : Nat) (cB cI cJ : ClassId) (q_at : Int32) (q_most : Int32) (q_flags : Int32) (q_great : Int32) (q_sizeAt : Int32) (q_start : Int32) (q_place : Int32) (gn : Int32) (gf : Nat → Int32) : va_W := [(fr, .inr (6, [.ref g, .ref t, .ref br, .int q_at, .int q_most, .int q_flags, .int q_great, .int q_sizeAt, .int q_start, .int q_place])), (g, .inr (1, [.ref ga, .int gn])), (ga, .inl (cB, 8000, .inl gf))]
abbrev rm_FR_readHead : Room := { frames := 4, cells := 0, slots := 0, locals := 94 }
section
variable {p : Program} {l : Launch} {e : Env} {s : State} {m : MethodId} {args : Array Value} {below : List Frame} {meth : Method} {c : Code} {dC : Nat → ClassId} {dI : Nat → Nat → Nat} {A : Nat → Prop} {cB cI cJ : ClassId} {H : Heap} {locs : List Loc} {ls : Array Slot} {N : Nat} {fr g ga t br : Nat}
noncomputable def j_FR_readHead_36 (N : Nat) (x1 : Int32) (t0 : Int32) (t1 : Int32) (q_at : Int32) (q_sizeAt : Int32) (q_place : Int32) (gn : Int32) (gf : Nat → Int32)  : Option (Int32 × Int32 × Int32 × Int32) :=
  bd1 (f_FR_left q_at gn) (fun r39 => (if ((t1 + t0) + (1 : Int32)) ≤ r39 then bd1 (f_Row_get 8000 (q_at + (t1 + t0)) gn gf) (fun r71 => bd1 (f_Sum_of N 8000 x1 (q_at + (t1 + t0)) gn gf) (fun r83 => (if r71 = ((r83 >>> ((8 : Int32) &&& 31)) &&& (255 : Int32)) then (some ((0 : Int32), ((q_at + (t1 + t0)) + (1 : Int32)), q_sizeAt, q_place) : Option (Int32 × Int32 × Int32 × Int32)) else bd2 (f_FR_fault (6 : Int32) (q_at + (t1 + t0))) (fun r103 q_place_103 => (some (r103, (q_at + (t1 + t0)), q_sizeAt, q_place_103) : Option (Int32 × Int32 × Int32 × Int32)))))) else bd2 (f_FR_cut gn) (fun r49 q_place_49 => (some (r49, q_at, q_sizeAt, q_place_49) : Option (Int32 × Int32 × Int32 × Int32)))))
set_option maxHeartbeats 4000000 in
set_option maxRecDepth 100000 in
theorem k_FR_readHead_36 {r_z : Int32} {q_at_z : Int32} {q_sizeAt_z : Int32} {q_place_z : Int32} (C : Fx p s m args meth c cd_FR_readHead 3 R_FR lw_g (some .int)) (hK : va_K (dC, dI) vwCl [(cB, .byte), (cI, .int), (cJ, .long)] s) (hA : ∀ q, s.heap.size ≤ q → A q) (x1 : Int32) (t0 : Int32) (t1 : Int32) (q_at : Int32) (q_most : Int32) (q_flags : Int32) (q_great : Int32) (q_sizeAt : Int32) (q_start : Int32) (q_place : Int32) (gn : Int32) (gf : Nat → Int32)  (hf : j_FR_readHead_36 N x1 t0 t1 q_at q_sizeAt q_place gn gf  = some (r_z, q_at_z, q_sizeAt_z, q_place_z)) (hP : va_P (dC, dI) vwCl (wd_FR_readHead fr g ga t br cB cI cJ q_at q_most q_flags q_great q_sizeAt q_start q_place gn gf) H) (hD : va_D A (wd_FR_readHead fr g ga t br cB cI cJ q_at q_most q_flags q_great q_sizeAt q_start q_place gn gf)) (hS : va_S A s.heap H locs) (hl : lv_has ls 3 [(0, .ref fr), (1, .int x1)]) : W p l e rm_FR_readHead s m args below meth c H locs 0 0 (MQ below (sQi (dC, dI) vwCl [(cB, .byte), (cI, .int), (cJ, .long)] A r_z (wd_FR_readHead fr g ga t br cB cI cJ q_at_z q_most q_flags q_great q_sizeAt_z q_start q_place_z gn gf)) args s 0 0 A) (F0 m 36 ls [.int t0, .int t1]) := by
  obtain ⟨hx, hb, hml, hown, hts, hr, hlocks, hZ⟩ := id C
  unfold j_FR_readHead_36 at hf
  refine lv_iadd hx hb d_FR_readHead_36 ?_
  refine lv_istore_n (lv' := [(2, .int (t1 + t0)), (0, .ref fr), (1, .int x1)]) hx hb d_FR_readHead_37 rfl hl (by decide) rfl (fun ls hl => ?_)
  refine lv_aload_n hx hb d_FR_readHead_38 rfl (lv_at hl 1 rfl) ?_
  obtain ⟨r39, hc39, hf⟩ := bd1_some hf
  refine s_Vi (As := []) (rest := []) (wr := [(ga, .inl (cB, 8000, .inl gf))]) (ws' := wd_FR_readHead fr g ga t br cB cI cJ q_at q_most q_flags q_great q_sizeAt q_start q_place gn gf) C.call (c_FR_left l dC dI cB cI cJ fr g t br ga  q_at q_most q_flags q_great q_sizeAt q_start q_place gn  hc39) (cwV 0 hts (gd_V w_288 w_289 w_290 w_285 w_291) rfl rfl rfl ⟨rfl, hd_FR_left⟩ ⟨Nat.le_of_ble_eq_true rfl, Nat.le_of_ble_eq_true rfl⟩) rfl hl.1 rfl (Nat.le_of_ble_eq_true rfl) d_FR_readHead_39 ⟨Nat.le_of_ble_eq_true rfl, Nat.le_of_ble_eq_true rfl⟩ hZ hK hP hD hS hA 6 0 rfl rfl [0, 1] [2] [1, 2, 0] rfl rfl rfl rfl (by decide) rfl rfl (fun H locs hP hD hS => ?_)
  refine lv_iload_n hx hb d_FR_readHead_42 rfl (lv_at hl 0 rfl) ?_
  refine lv_iconst (v := 1) hx hb d_FR_readHead_43 (by decide) ?_
  refine lv_iadd hx hb d_FR_readHead_44 ?_
  refine lv_icmp_ge (tgt := 53) hx hb d_FR_readHead_45 (by decide) (fun c_45 => ?_) (fun c_45 => ?_)
  · have hf := br_pos c_45 hf
    refine lv_aload_n hx hb d_FR_readHead_53 rfl (lv_at hl 1 rfl) ?_
    refine lv_dup hx hb d_FR_readHead_54 rfl ?_
    refine va_get (D := (dC, dI)) (ci := 6) (v := .int q_at) (C := R_FR) (T := T_FR) (N := 10) hx hb hts w_278 hown hK hP 0 rfl rfl 3 (by decide) (hts _ w_287) (fun _ h9 => h9) rfl d_FR_readHead_55 ?_
    refine lv_iload_n hx hb d_FR_readHead_58 rfl (lv_at hl 0 rfl) ?_
    refine lv_iadd hx hb d_FR_readHead_59 ?_
    refine va_put (D := (dC, dI)) (ci := 6) (v := .int (q_at + (t1 + t0))) (ty := .int) (C := R_FR) (T := T_FR) (N := 10) hx hb hts w_278 ty_FR ty_FR_ok nm_FR hown hK hP hD hS 0 rfl rfl 3 (by decide) (hts _ w_287) (fun _ h9 => h9) rfl (by decide +kernel) rfl rfl (Nat.le_of_ble_eq_true rfl) d_FR_readHead_60 (fun H locs hP hD hS => ?_)
    have hP : va_P (dC, dI) vwCl (wd_FR_readHead fr g ga t br cB cI cJ (q_at + (t1 + t0)) q_most q_flags q_great q_sizeAt q_start q_place gn gf) H := hP
    have hD : va_D A (wd_FR_readHead fr g ga t br cB cI cJ (q_at + (t1 + t0)) q_most q_flags q_great q_sizeAt q_start q_place gn gf) := hD
    refine lv_aload_n hx hb d_FR_readHead_63 rfl (lv_at hl 1 rfl) ?_
    refine va_get (D := (dC, dI)) (ci := 6) (v := .ref g) (C := R_FR) (T := T_FR) (N := 10) hx hb hts w_278 hown hK hP 0 rfl rfl 0 (by decide) (hts _ w_280) (fun _ h9 => h9) rfl d_FR_readHead_64 ?_
    refine lv_aload_n hx hb d_FR_readHead_67 rfl (lv_at hl 1 rfl) ?_
    refine va_get (D := (dC, dI)) (ci := 6) (v := .int (q_at + (t1 + t0))) (C := R_FR) (T := T_FR) (N := 10) hx hb hts w_278 hown hK hP 0 rfl rfl 3 (by decide) (hts _ w_287) (fun _ h9 => h9) rfl d_FR_readHead_68 ?_
    obtain ⟨r71, hc71, hf⟩ := bd1_some hf
    refine s_Vi (As := [.int (q_at + (t1 + t0))]) (rest := []) (wr := [(fr, .inr (6, [.ref g, .ref t, .ref br, .int (q_at + (t1 + t0)), .int q_most, .int q_flags, .int q_great, .int q_sizeAt, .int q_start, .int q_place]))]) (ws' := wd_FR_readHead fr g ga t br cB cI cJ (q_at + (t1 + t0)) q_most q_flags q_great q_sizeAt q_start q_place gn gf) C.call (c_Row_get l dC dI cB cI cJ g ga 8000 gn gf (q_at + (t1 + t0)) hc71) (cwV 1 hts (gd_V w_317 w_80 w_81 w_12 w_82) rfl rfl rfl ⟨rfl, hd_Row_get⟩ ⟨Nat.le_of_ble_eq_true rfl, Nat.le_of_ble_eq_true rfl⟩) rfl hl.1 rfl (Nat.le_of_ble_eq_true rfl) d_FR_readHead_71 ⟨Nat.le_of_ble_eq_true rfl, Nat.le_of_ble_eq_true rfl⟩ hZ hK hP hD hS hA 1 1 rfl rfl [1, 2] [0] [0, 1, 2] rfl rfl rfl rfl (by decide) rfl rfl (fun H locs hP hD hS => ?_)
    refine lv_aload_n hx hb d_FR_readHead_74 rfl (lv_at hl 1 rfl) ?_
    refine va_get (D := (dC, dI)) (ci := 6) (v := .ref g) (C := R_FR) (T := T_FR) (N := 10) hx hb hts w_278 hown hK hP 0 rfl rfl 0 (by decide) (hts _ w_280) (fun _ h9 => h9) rfl d_FR_readHead_75 ?_
    refine lv_iload_n hx hb d_FR_readHead_78 rfl (lv_at hl 2 rfl) ?_
    refine lv_aload_n hx hb d_FR_readHead_79 rfl (lv_at hl 1 rfl) ?_
    refine va_get (D := (dC, dI)) (ci := 6) (v := .int (q_at + (t1 + t0))) (C := R_FR) (T := T_FR) (N := 10) hx hb hts w_278 hown hK hP 0 rfl rfl 3 (by decide) (hts _ w_287) (fun _ h9 => h9) rfl d_FR_readHead_80 ?_
    obtain ⟨r83, hc83, hf⟩ := bd1_some hf
    refine s_Si (As := [.ref g, .int x1, .int (q_at + (t1 + t0))]) (rest := [.int r71]) (wr := [(fr, .inr (6, [.ref g, .ref t, .ref br, .int (q_at + (t1 + t0)), .int q_most, .int q_flags, .int q_great, .int q_sizeAt, .int q_start, .int q_place]))]) (ws' := wd_FR_readHead fr g ga t br cB cI cJ (q_at + (t1 + t0)) q_most q_flags q_great q_sizeAt q_start q_place gn gf) C.call (c_Sum_of l dC dI cB cI cJ g ga 8000 gn gf x1 (q_at + (t1 + t0)) hc83) (va_cwS 3 hts (gd_S w_316 w_175 w_149 w_176) rfl rfl rfl hd_Sum_of ⟨Nat.le_of_ble_eq_true rfl, Nat.le_of_ble_eq_true rfl⟩) rfl hl.1 rfl (Nat.le_of_ble_eq_true rfl) d_FR_readHead_83 ⟨Nat.le_of_ble_eq_true rfl, Nat.le_of_ble_eq_true rfl⟩ hZ hK hP hD hS hA [1, 2] [0] [0, 1, 2] rfl rfl rfl rfl (by decide) rfl rfl (fun H locs hP hD hS => ?_)
    refine lv_bipush (v := 8) hx hb d_FR_readHead_86 (by decide) ?_
    refine lv_ishr hx hb d_FR_readHead_88 ?_
    refine lv_sipush (v := 255) hx hb d_FR_readHead_89 (by decide) ?_
    refine lv_iand hx hb d_FR_readHead_92 ?_
    refine lv_icmp_eq (tgt := 107) hx hb d_FR_readHead_93 (by decide) (fun c_93 => ?_) (fun c_93 => ?_)
    · have hf := br_pos c_93 hf
      refine lv_aload_n hx hb d_FR_readHead_107 rfl (lv_at hl 1 rfl) ?_
      refine lv_dup hx hb d_FR_readHead_108 rfl ?_
      refine va_get (D := (dC, dI)) (ci := 6) (v := .int (q_at + (t1 + t0))) (C := R_FR) (T := T_FR) (N := 10) hx hb hts w_278 hown hK hP 0 rfl rfl 3 (by decide) (hts _ w_287) (fun _ h9 => h9) rfl d_FR_readHead_109 ?_
      refine lv_iconst (v := 1) hx hb d_FR_readHead_112 (by decide) ?_
      refine lv_iadd hx hb d_FR_readHead_113 ?_
      refine va_put (D := (dC, dI)) (ci := 6) (v := .int ((q_at + (t1 + t0)) + (1 : Int32))) (ty := .int) (C := R_FR) (T := T_FR) (N := 10) hx hb hts w_278 ty_FR ty_FR_ok nm_FR hown hK hP hD hS 0 rfl rfl 3 (by decide) (hts _ w_287) (fun _ h9 => h9) rfl (by decide +kernel) rfl rfl (Nat.le_of_ble_eq_true rfl) d_FR_readHead_114 (fun H locs hP hD hS => ?_)
      have hP : va_P (dC, dI) vwCl (wd_FR_readHead fr g ga t br cB cI cJ ((q_at + (t1 + t0)) + (1 : Int32)) q_most q_flags q_great q_sizeAt q_start q_place gn gf) H := hP
      have hD : va_D A (wd_FR_readHead fr g ga t br cB cI cJ ((q_at + (t1 + t0)) + (1 : Int32)) q_most q_flags q_great q_sizeAt q_start q_place gn gf) := hD
      refine lv_iconst (v := 0) hx hb d_FR_readHead_117 (by decide) ?_
      cases hf
      exact s_iret hx hb hr hlocks hP hK hD hS d_FR_readHead_118
    · have hf := br_neg c_93 hf
      refine lv_aload_n hx hb d_FR_readHead_96 rfl (lv_at hl 1 rfl) ?_
      refine lv_bipush (v := 6) hx hb d_FR_readHead_97 (by decide) ?_
      refine lv_aload_n hx hb d_FR_readHead_99 rfl (lv_at hl 1 rfl) ?_
      refine va_get (D := (dC, dI)) (ci := 6) (v := .int (q_at + (t1 + t0))) (C := R_FR) (T := T_FR) (N := 10) hx hb hts w_278 hown hK hP 0 rfl rfl 3 (by decide) (hts _ w_287) (fun _ h9 => h9) rfl d_FR_readHead_100 ?_
      obtain ⟨r103, q_place_103, hc103, hf⟩ := bd2_some hf
      refine s_Vi (As := [.int (6 : Int32), .int (q_at + (t1 + t0))]) (rest := []) (wr := [(g, .inr (1, [.ref ga, .int gn])), (ga, .inl (cB, 8000, .inl gf))]) (ws' := wd_FR_readHead fr g ga t br cB cI cJ (q_at + (t1 + t0)) q_most q_flags q_great q_sizeAt q_start q_place_103 gn gf) C.call (c_FR_fault l dC dI cB cI cJ fr g t br  (q_at + (t1 + t0)) q_most q_flags q_great q_sizeAt q_start q_place (6 : Int32) (q_at + (t1 + t0)) hc103) (cwV 2 hts (gd_V w_282 w_283 w_284 w_285 w_286) rfl rfl rfl ⟨rfl, hd_FR_fault⟩ ⟨Nat.le_of_ble_eq_true rfl, Nat.le_of_ble_eq_true rfl⟩) rfl hl.1 rfl (Nat.le_of_ble_eq_true rfl) d_FR_readHead_103 ⟨Nat.le_of_ble_eq_true rfl, Nat.le_of_ble_eq_true rfl⟩ hZ hK hP hD hS hA 6 0 rfl rfl [0] [1, 2] [2, 0, 1] rfl rfl rfl rfl (by decide) rfl rfl (fun H locs hP hD hS => ?_)
      cases hf
      exact s_iret hx hb hr hlocks hP hK hD hS d_FR_readHead_106
  · have hf := br_neg c_45 hf
    refine lv_aload_n hx hb d_FR_readHead_48 rfl (lv_at hl 1 rfl) ?_
    obtain ⟨r49, q_place_49, hc49, hf⟩ := bd2_some hf
    refine s_Vi (As := []) (rest := []) (wr := [(ga, .inl (cB, 8000, .inl gf))]) (ws' := wd_FR_readHead fr g ga t br cB cI cJ q_at q_most q_flags q_great q_sizeAt q_start q_place_49 gn gf) C.call (c_FR_cut l dC dI cB cI cJ fr g t br ga  q_at q_most q_flags q_great q_sizeAt q_start q_place gn  hc49) (cwV 0 hts (gd_V w_294 w_295 w_296 w_285 w_297) rfl rfl rfl ⟨rfl, hd_FR_cut⟩ ⟨Nat.le_of_ble_eq_true rfl, Nat.le_of_ble_eq_true rfl⟩) rfl hl.1 rfl (Nat.le_of_ble_eq_true rfl) d_FR_readHead_49 ⟨Nat.le_of_ble_eq_true rfl, Nat.le_of_ble_eq_true rfl⟩ hZ hK hP hD hS hA 6 0 rfl rfl [0, 1] [2] [1, 2, 0] rfl rfl rfl rfl (by decide) rfl rfl (fun H locs hP hD hS => ?_)
    cases hf
    exact s_iret hx hb hr hlocks hP hK hD hS d_FR_readHead_52
noncomputable def j_FR_readHead_23 (N : Nat) (x1 : Int32) (t0 : Int32) (q_at : Int32) (q_flags : Int32) (q_sizeAt : Int32) (q_place : Int32) (gn : Int32) (gf : Nat → Int32)  : Option (Int32 × Int32 × Int32 × Int32) :=
  bd1 (f_FR_has (1 : Int32) q_flags) (fun r25 => (if r25 = 0 then (j_FR_readHead_36 N x1 (0 : Int32) t0 q_at q_sizeAt q_place gn gf ) else (j_FR_readHead_36 N x1 (4 : Int32) t0 q_at q_sizeAt q_place gn gf )))
set_option maxHeartbeats 4000000 in
set_option maxRecDepth 100000 in
theorem k_FR_readHead_23 {r_z : Int32} {q_at_z : Int32} {q_sizeAt_z : Int32} {q_place_z : Int32} (C : Fx p s m args meth c cd_FR_readHead 3 R_FR lw_g (some .int)) (hK : va_K (dC, dI) vwCl [(cB, .byte), (cI, .int), (cJ, .long)] s) (hA : ∀ q, s.heap.size ≤ q → A q) (x1 : Int32) (t0 : Int32) (q_at : Int32) (q_most : Int32) (q_flags : Int32) (q_great : Int32) (q_sizeAt : Int32) (q_start : Int32) (q_place : Int32) (gn : Int32) (gf : Nat → Int32)  (hf : j_FR_readHead_23 N x1 t0 q_at q_flags q_sizeAt q_place gn gf  = some (r_z, q_at_z, q_sizeAt_z, q_place_z)) (hP : va_P (dC, dI) vwCl (wd_FR_readHead fr g ga t br cB cI cJ q_at q_most q_flags q_great q_sizeAt q_start q_place gn gf) H) (hD : va_D A (wd_FR_readHead fr g ga t br cB cI cJ q_at q_most q_flags q_great q_sizeAt q_start q_place gn gf)) (hS : va_S A s.heap H locs) (hl : lv_has ls 3 [(0, .ref fr), (1, .int x1)]) : W p l e rm_FR_readHead s m args below meth c H locs 0 0 (MQ below (sQi (dC, dI) vwCl [(cB, .byte), (cI, .int), (cJ, .long)] A r_z (wd_FR_readHead fr g ga t br cB cI cJ q_at_z q_most q_flags q_great q_sizeAt_z q_start q_place_z gn gf)) args s 0 0 A) (F0 m 23 ls [.int t0]) := by
  obtain ⟨hx, hb, hml, hown, hts, hr, hlocks, hZ⟩ := id C
  unfold j_FR_readHead_23 at hf
  refine lv_aload_n hx hb d_FR_readHead_23 rfl (lv_at hl 0 rfl) ?_
  refine lv_iconst (v := 1) hx hb d_FR_readHead_24 (by decide) ?_
  obtain ⟨r25, hc25, hf⟩ := bd1_some hf
  refine s_Vi (As := [.int (1 : Int32)]) (rest := [.int t0]) (wr := [(g, .inr (1, [.ref ga, .int gn])), (ga, .inl (cB, 8000, .inl gf))]) (ws' := wd_FR_readHead fr g ga t br cB cI cJ q_at q_most q_flags q_great q_sizeAt q_start q_place gn gf) C.call (c_FR_has l dC dI cB cI cJ fr g t br  q_at q_most q_flags q_great q_sizeAt q_start q_place (1 : Int32) hc25) (cwV 1 hts (gd_V w_304 w_305 w_306 w_285 w_307) rfl rfl rfl ⟨rfl, hd_FR_has⟩ ⟨Nat.le_of_ble_eq_true rfl, Nat.le_of_ble_eq_true rfl⟩) rfl hl.1 rfl (Nat.le_of_ble_eq_true rfl) d_FR_readHead_25 ⟨Nat.le_of_ble_eq_true rfl, Nat.le_of_ble_eq_true rfl⟩ hZ hK hP hD hS hA 6 0 rfl rfl [0] [1, 2] [2, 0, 1] rfl rfl rfl rfl (by decide) rfl rfl (fun H locs hP hD hS => ?_)
  refine lv_if_eq (tgt := 35) hx hb d_FR_readHead_28 (by decide) (fun c_28 => ?_) (fun c_28 => ?_)
  · have hf := br_pos c_28 hf
    refine lv_iconst (v := 0) hx hb d_FR_readHead_35 (by decide) ?_
    exact k_FR_readHead_36 C hK hA x1 (0 : Int32) t0 q_at q_most q_flags q_great q_sizeAt q_start q_place gn gf  hf hP hD hS (lv_sub hl [0, 1] rfl)
  · have hf := br_neg c_28 hf
    refine lv_iconst (v := 4) hx hb d_FR_readHead_31 (by decide) ?_
    refine lv_goto (tgt := 36) hx hb d_FR_readHead_32 (by decide) ?_
    exact k_FR_readHead_36 C hK hA x1 (4 : Int32) t0 q_at q_most q_flags q_great q_sizeAt q_start q_place gn gf  hf hP hD hS (lv_sub hl [0, 1] rfl)
noncomputable def j_FR_readHead_0 (N : Nat) (x1 : Int32) (q_at : Int32) (q_flags : Int32) (q_place : Int32) (gn : Int32) (gf : Nat → Int32)  : Option (Int32 × Int32 × Int32 × Int32) :=
  bd1 (f_FR_has (8 : Int32) q_flags) (fun r11 => (if r11 = 0 then (j_FR_readHead_23 N x1 (0 : Int32) q_at q_flags q_at q_place gn gf ) else (j_FR_readHead_23 N x1 (8 : Int32) q_at q_flags q_at q_place gn gf )))
set_option maxHeartbeats 4000000 in
set_option maxRecDepth 100000 in
theorem k_FR_readHead_0 {r_z : Int32} {q_at_z : Int32} {q_sizeAt_z : Int32} {q_place_z : Int32} (C : Fx p s m args meth c cd_FR_readHead 3 R_FR lw_g (some .int)) (hK : va_K (dC, dI) vwCl [(cB, .byte), (cI, .int), (cJ, .long)] s) (hA : ∀ q, s.heap.size ≤ q → A q) (x1 : Int32) (q_at : Int32) (q_most : Int32) (q_flags : Int32) (q_great : Int32) (q_sizeAt : Int32) (q_start : Int32) (q_place : Int32) (gn : Int32) (gf : Nat → Int32)  (hf : j_FR_readHead_0 N x1 q_at q_flags q_place gn gf  = some (r_z, q_at_z, q_sizeAt_z, q_place_z)) (hP : va_P (dC, dI) vwCl (wd_FR_readHead fr g ga t br cB cI cJ q_at q_most q_flags q_great q_sizeAt q_start q_place gn gf) H) (hD : va_D A (wd_FR_readHead fr g ga t br cB cI cJ q_at q_most q_flags q_great q_sizeAt q_start q_place gn gf)) (hS : va_S A s.heap H locs) (hl : lv_has ls 3 [(0, .ref fr), (1, .int x1)]) : W p l e rm_FR_readHead s m args below meth c H locs 0 0 (MQ below (sQi (dC, dI) vwCl [(cB, .byte), (cI, .int), (cJ, .long)] A r_z (wd_FR_readHead fr g ga t br cB cI cJ q_at_z q_most q_flags q_great q_sizeAt_z q_start q_place_z gn gf)) args s 0 0 A) (F0 m 0 ls []) := by
  obtain ⟨hx, hb, hml, hown, hts, hr, hlocks, hZ⟩ := id C
  unfold j_FR_readHead_0 at hf
  refine lv_aload_n hx hb d_FR_readHead_0 rfl (lv_at hl 0 rfl) ?_
  refine lv_aload_n hx hb d_FR_readHead_1 rfl (lv_at hl 0 rfl) ?_
  refine va_get (D := (dC, dI)) (ci := 6) (v := .int q_at) (C := R_FR) (T := T_FR) (N := 10) hx hb hts w_278 hown hK hP 0 rfl rfl 3 (by decide) (hts _ w_287) (fun _ h9 => h9) rfl d_FR_readHead_2 ?_
  refine va_put (D := (dC, dI)) (ci := 6) (v := .int q_at) (ty := .int) (C := R_FR) (T := T_FR) (N := 10) hx hb hts w_278 ty_FR ty_FR_ok nm_FR hown hK hP hD hS 0 rfl rfl 7 (by decide) (hts _ w_318) (fun _ h9 => h9) rfl (by decide +kernel) rfl rfl (Nat.le_of_ble_eq_true rfl) d_FR_readHead_5 (fun H locs hP hD hS => ?_)
  have hP : va_P (dC, dI) vwCl (wd_FR_readHead fr g ga t br cB cI cJ q_at q_most q_flags q_great q_at q_start q_place gn gf) H := hP
  have hD : va_D A (wd_FR_readHead fr g ga t br cB cI cJ q_at q_most q_flags q_great q_at q_start q_place gn gf) := hD
  refine lv_aload_n hx hb d_FR_readHead_8 rfl (lv_at hl 0 rfl) ?_
  refine lv_bipush (v := 8) hx hb d_FR_readHead_9 (by decide) ?_
  obtain ⟨r11, hc11, hf⟩ := bd1_some hf
  refine s_Vi (As := [.int (8 : Int32)]) (rest := []) (wr := [(g, .inr (1, [.ref ga, .int gn])), (ga, .inl (cB, 8000, .inl gf))]) (ws' := wd_FR_readHead fr g ga t br cB cI cJ q_at q_most q_flags q_great q_at q_start q_place gn gf) C.call (c_FR_has l dC dI cB cI cJ fr g t br  q_at q_most q_flags q_great q_at q_start q_place (8 : Int32) hc11) (cwV 1 hts (gd_V w_304 w_305 w_306 w_285 w_307) rfl rfl rfl ⟨rfl, hd_FR_has⟩ ⟨Nat.le_of_ble_eq_true rfl, Nat.le_of_ble_eq_true rfl⟩) rfl hl.1 rfl (Nat.le_of_ble_eq_true rfl) d_FR_readHead_11 ⟨Nat.le_of_ble_eq_true rfl, Nat.le_of_ble_eq_true rfl⟩ hZ hK hP hD hS hA 6 0 rfl rfl [0] [1, 2] [2, 0, 1] rfl rfl rfl rfl (by decide) rfl rfl (fun H locs hP hD hS => ?_)
  refine lv_if_eq (tgt := 22) hx hb d_FR_readHead_14 (by decide) (fun c_14 => ?_) (fun c_14 => ?_)
  · have hf := br_pos c_14 hf
    refine lv_iconst (v := 0) hx hb d_FR_readHead_22 (by decide) ?_
    exact k_FR_readHead_23 C hK hA x1 (0 : Int32) q_at q_most q_flags q_great q_at q_start q_place gn gf  hf hP hD hS (lv_sub hl [0, 1] rfl)
  · have hf := br_neg c_14 hf
    refine lv_bipush (v := 8) hx hb d_FR_readHead_17 (by decide) ?_
    refine lv_goto (tgt := 23) hx hb d_FR_readHead_19 (by decide) ?_
    exact k_FR_readHead_23 C hK hA x1 (8 : Int32) q_at q_most q_flags q_great q_at q_start q_place gn gf  hf hP hD hS (lv_sub hl [0, 1] rfl)
end
noncomputable abbrev f_FR_readHead (N : Nat) (x1 : Int32) (q_at : Int32) (q_flags : Int32) (q_place : Int32) (gn : Int32) (gf : Nat → Int32) : Option (Int32 × Int32 × Int32 × Int32) := j_FR_readHead_0 N x1 q_at q_flags q_place gn gf
set_option maxRecDepth 100000 in
theorem c_FR_readHead {N : Nat} (l : Launch) (dC : Nat → ClassId) (dI : Nat → Nat → Nat) (cB cI cJ : ClassId) (fr g ga t br : Nat) (q_at : Int32) (q_most : Int32) (q_flags : Int32) (q_great : Int32) (q_sizeAt : Int32) (q_start : Int32) (q_place : Int32) (gn : Int32) (gf : Nat → Int32) (x1 : Int32) {r_z : Int32} {q_at_z : Int32} {q_sizeAt_z : Int32} {q_place_z : Int32} (hf : f_FR_readHead N x1 q_at q_flags q_place gn gf = some (r_z, q_at_z, q_sizeAt_z, q_place_z)) : MetI l y_FR_readHead ws_FR_readHead rm_FR_readHead (dC, dI) vwCl [(cB, .byte), (cI, .int), (cJ, .long)] [.ref fr, .int x1] (wd_FR_readHead fr g ga t br cB cI cJ q_at q_most q_flags q_great q_sizeAt q_start q_place gn gf) r_z (wd_FR_readHead fr g ga t br cB cI cJ q_at_z q_most q_flags q_great q_sizeAt_z q_start q_place_z gn gf) 0 0 :=
  s_ofi (bytes := cd_FR_readHead) (maxL := 3) (ret := (some .int)) (by decide) rfl (Nat.le_of_ble_eq_true rfl) (fun p e s m below meth c A ls C hK hA hP hD hS hl => k_FR_readHead_0 C hK hA x1 q_at q_most q_flags q_great q_sizeAt q_start q_place gn gf hf hP hD hS (lv_sub hl [0, 1] rfl))

abbrev wd_FR_sizeIs (fr g ga t br : Nat) (cB cI cJ : ClassId) (q_at : Int32) (q_most : Int32) (q_flags : Int32) (q_great : Int32) (q_sizeAt : Int32) (q_start : Int32) (q_place : Int32) (gn : Int32) (gf : Nat → Int32) : va_W := [(fr, .inr (6, [.ref g, .ref t, .ref br, .int q_at, .int q_most, .int q_flags, .int q_great, .int q_sizeAt, .int q_start, .int q_place])), (g, .inr (1, [.ref ga, .int gn])), (ga, .inl (cB, 8000, .inl gf))]
abbrev rm_FR_sizeIs : Room := { frames := 1, cells := 0, slots := 0, locals := 21 }
section
variable {p : Program} {l : Launch} {e : Env} {s : State} {m : MethodId} {args : Array Value} {below : List Frame} {meth : Method} {c : Code} {dC : Nat → ClassId} {dI : Nat → Nat → Nat} {A : Nat → Prop} {cB cI cJ : ClassId} {H : Heap} {locs : List Loc} {ls : Array Slot} {N : Nat} {fr g ga t br : Nat}
noncomputable def j_FR_sizeIs_0 (x1 : Int32) (q_sizeAt : Int32) (gn : Int32) (gf : Nat → Int32)  : Option (Int32) :=
  bd1 (f_Row_word 8000 q_sizeAt gn gf) (fun r8 => (if r8 = x1 then bd1 (f_Row_word 8000 (q_sizeAt + (4 : Int32)) gn gf) (fun r25 => (if r25 = 0 then (some (1 : Int32) : Option (Int32)) else (some (0 : Int32) : Option (Int32)))) else (some (0 : Int32) : Option (Int32))))
set_option maxHeartbeats 4000000 in
set_option maxRecDepth 100000 in
theorem k_FR_sizeIs_0 {r_z : Int32} (C : Fx p s m args meth c cd_FR_sizeIs 2 R_FR lw_g (some .boolean)) (hK : va_K (dC, dI) vwCl [(cB, .byte), (cI, .int), (cJ, .long)] s) (hA : ∀ q, s.heap.size ≤ q → A q) (x1 : Int32) (q_at : Int32) (q_most : Int32) (q_flags : Int32) (q_great : Int32) (q_sizeAt : Int32) (q_start : Int32) (q_place : Int32) (gn : Int32) (gf : Nat → Int32)  (hf : j_FR_sizeIs_0 x1 q_sizeAt gn gf  = some r_z) (hP : va_P (dC, dI) vwCl (wd_FR_sizeIs fr g ga t br cB cI cJ q_at q_most q_flags q_great q_sizeAt q_start q_place gn gf) H) (hD : va_D A (wd_FR_sizeIs fr g ga t br cB cI cJ q_at q_most q_flags q_great q_sizeAt q_start q_place gn gf)) (hS : va_S A s.heap H locs) (hl : lv_has ls 2 [(0, .ref fr), (1, .int x1)]) : W p l e rm_FR_sizeIs s m args below meth c H locs 0 0 (MQ below (sQi (dC, dI) vwCl [(cB, .byte), (cI, .int), (cJ, .long)] A r_z (wd_FR_sizeIs fr g ga t br cB cI cJ q_at q_most q_flags q_great q_sizeAt q_start q_place gn gf)) args s 0 0 A) (F0 m 0 ls []) := by
  obtain ⟨hx, hb, hml, hown, hts, hr, hlocks, hZ⟩ := id C
  unfold j_FR_sizeIs_0 at hf
  refine lv_aload_n hx hb d_FR_sizeIs_0 rfl (lv_at hl 0 rfl) ?_
  refine va_get (D := (dC, dI)) (ci := 6) (v := .ref g) (C := R_FR) (T := T_FR) (N := 10) hx hb hts w_278 hown hK hP 0 rfl rfl 0 (by decide) (hts _ w_280) (fun _ h9 => h9) rfl d_FR_sizeIs_1 ?_
  refine lv_aload_n hx hb d_FR_sizeIs_4 rfl (lv_at hl 0 rfl) ?_
  refine va_get (D := (dC, dI)) (ci := 6) (v := .int q_sizeAt) (C := R_FR) (T := T_FR) (N := 10) hx hb hts w_278 hown hK hP 0 rfl rfl 7 (by decide) (hts _ w_318) (fun _ h9 => h9) rfl d_FR_sizeIs_5 ?_
  obtain ⟨r8, hc8, hf⟩ := bd1_some hf
  refine s_Vi (As := [.int q_sizeAt]) (rest := []) (wr := [(fr, .inr (6, [.ref g, .ref t, .ref br, .int q_at, .int q_most, .int q_flags, .int q_great, .int q_sizeAt, .int q_start, .int q_place]))]) (ws' := wd_FR_sizeIs fr g ga t br cB cI cJ q_at q_most q_flags q_great q_sizeAt q_start q_place gn gf) C.call (c_Row_word l dC dI cB cI cJ g ga 8000 gn gf q_sizeAt hc8) (cwV 1 hts (gd_V w_292 w_59 w_60 w_12 w_61) rfl rfl rfl ⟨rfl, hd_Row_word⟩ ⟨Nat.le_of_ble_eq_true rfl, Nat.le_of_ble_eq_true rfl⟩) rfl hl.1 rfl (Nat.le_of_ble_eq_true rfl) d_FR_sizeIs_8 ⟨Nat.le_of_ble_eq_true rfl, Nat.le_of_ble_eq_true rfl⟩ hZ hK hP hD hS hA 1 1 rfl rfl [1, 2] [0] [0, 1, 2] rfl rfl rfl rfl (by decide) rfl rfl (fun H locs hP hD hS => ?_)
  refine lv_iload_n hx hb d_FR_sizeIs_11 rfl (lv_at hl 1 rfl) ?_
  refine lv_icmp_ne (tgt := 35) hx hb d_FR_sizeIs_12 (by decide) (fun c_12 => ?_) (fun c_12 => ?_)
  · have hf := br_neg c_12 hf
    refine lv_iconst (v := 0) hx hb d_FR_sizeIs_35 (by decide) ?_
    cases hf
    exact s_zret hx hb hr (by decide) hlocks hP hK hD hS d_FR_sizeIs_36
  · have hf := br_pos c_12 hf
    refine lv_aload_n hx hb d_FR_sizeIs_15 rfl (lv_at hl 0 rfl) ?_
    refine va_get (D := (dC, dI)) (ci := 6) (v := .ref g) (C := R_FR) (T := T_FR) (N := 10) hx hb hts w_278 hown hK hP 0 rfl rfl 0 (by decide) (hts _ w_280) (fun _ h9 => h9) rfl d_FR_sizeIs_16 ?_
    refine lv_aload_n hx hb d_FR_sizeIs_19 rfl (lv_at hl 0 rfl) ?_
    refine va_get (D := (dC, dI)) (ci := 6) (v := .int q_sizeAt) (C := R_FR) (T := T_FR) (N := 10) hx hb hts w_278 hown hK hP 0 rfl rfl 7 (by decide) (hts _ w_318) (fun _ h9 => h9) rfl d_FR_sizeIs_20 ?_
    refine lv_iconst (v := 4) hx hb d_FR_sizeIs_23 (by decide) ?_
    refine lv_iadd hx hb d_FR_sizeIs_24 ?_
    obtain ⟨r25, hc25, hf⟩ := bd1_some hf
    refine s_Vi (As := [.int (q_sizeAt + (4 : Int32))]) (rest := []) (wr := [(fr, .inr (6, [.ref g, .ref t, .ref br, .int q_at, .int q_most, .int q_flags, .int q_great, .int q_sizeAt, .int q_start, .int q_place]))]) (ws' := wd_FR_sizeIs fr g ga t br cB cI cJ q_at q_most q_flags q_great q_sizeAt q_start q_place gn gf) C.call (c_Row_word l dC dI cB cI cJ g ga 8000 gn gf (q_sizeAt + (4 : Int32)) hc25) (cwV 1 hts (gd_V w_292 w_59 w_60 w_12 w_61) rfl rfl rfl ⟨rfl, hd_Row_word⟩ ⟨Nat.le_of_ble_eq_true rfl, Nat.le_of_ble_eq_true rfl⟩) rfl hl.1 rfl (Nat.le_of_ble_eq_true rfl) d_FR_sizeIs_25 ⟨Nat.le_of_ble_eq_true rfl, Nat.le_of_ble_eq_true rfl⟩ hZ hK hP hD hS hA 1 1 rfl rfl [1, 2] [0] [0, 1, 2] rfl rfl rfl rfl (by decide) rfl rfl (fun H locs hP hD hS => ?_)
    refine lv_if_ne (tgt := 35) hx hb d_FR_sizeIs_28 (by decide) (fun c_28 => ?_) (fun c_28 => ?_)
    · have hf := br_neg c_28 hf
      refine lv_iconst (v := 0) hx hb d_FR_sizeIs_35 (by decide) ?_
      cases hf
      exact s_zret hx hb hr (by decide) hlocks hP hK hD hS d_FR_sizeIs_36
    · have hf := br_pos c_28 hf
      refine lv_iconst (v := 1) hx hb d_FR_sizeIs_31 (by decide) ?_
      refine lv_goto (tgt := 36) hx hb d_FR_sizeIs_32 (by decide) ?_
      cases hf
      exact s_zret hx hb hr (by decide) hlocks hP hK hD hS d_FR_sizeIs_36
end
noncomputable abbrev f_FR_sizeIs (x1 : Int32) (q_sizeAt : Int32) (gn : Int32) (gf : Nat → Int32) : Option (Int32) := j_FR_sizeIs_0 x1 q_sizeAt gn gf
set_option maxRecDepth 100000 in
theorem c_FR_sizeIs (l : Launch) (dC : Nat → ClassId) (dI : Nat → Nat → Nat) (cB cI cJ : ClassId) (fr g ga t br : Nat) (q_at : Int32) (q_most : Int32) (q_flags : Int32) (q_great : Int32) (q_sizeAt : Int32) (q_start : Int32) (q_place : Int32) (gn : Int32) (gf : Nat → Int32) (x1 : Int32) {r_z : Int32} (hf : f_FR_sizeIs x1 q_sizeAt gn gf = some r_z) : MetI l y_FR_sizeIs ws_FR_sizeIs rm_FR_sizeIs (dC, dI) vwCl [(cB, .byte), (cI, .int), (cJ, .long)] [.ref fr, .int x1] (wd_FR_sizeIs fr g ga t br cB cI cJ q_at q_most q_flags q_great q_sizeAt q_start q_place gn gf) r_z (wd_FR_sizeIs fr g ga t br cB cI cJ q_at q_most q_flags q_great q_sizeAt q_start q_place gn gf) 0 0 :=
  s_ofi (bytes := cd_FR_sizeIs) (maxL := 2) (ret := (some .boolean)) (by decide) rfl (Nat.le_of_ble_eq_true rfl) (fun p e s m below meth c A ls C hK hA hP hD hS hl => k_FR_sizeIs_0 C hK hA x1 q_at q_most q_flags q_great q_sizeAt q_start q_place gn gf hf hP hD hS (lv_sub hl [0, 1] rfl))

abbrev wd_FR_readTail (fr g ga t ta br : Nat) (cB cI cJ : ClassId) (q_at : Int32) (q_most : Int32) (q_flags : Int32) (q_great : Int32) (q_sizeAt : Int32) (q_start : Int32) (q_place : Int32) (gn : Int32) (gf : Nat → Int32) (tn : Int32) (tf : Nat → Int32) : va_W := [(fr, .inr (6, [.ref g, .ref t, .ref br, .int q_at, .int q_most, .int q_flags, .int q_great, .int q_sizeAt, .int q_start, .int q_place])), (g, .inr (1, [.ref ga, .int gn])), (ga, .inl (cB, 8000, .inl gf)), (t, .inr (1, [.ref ta, .int tn])), (ta, .inl (cB, 8000, .inl tf))]
abbrev rm_FR_readTail : Room := { frames := 4, cells := 0, slots := 0, locals := 94 }
section
variable {p : Program} {l : Launch} {e : Env} {s : State} {m : MethodId} {args : Array Value} {below : List Frame} {meth : Method} {c : Code} {dC : Nat → ClassId} {dI : Nat → Nat → Nat} {A : Nat → Prop} {cB cI cJ : ClassId} {H : Heap} {locs : List Loc} {ls : Array Slot} {N : Nat} {fr g ga t ta br : Nat}
noncomputable def j_FR_readTail_74 (q_at : Int32) (q_flags : Int32) (q_sizeAt : Int32) (q_start : Int32) (q_place : Int32) (gn : Int32) (gf : Nat → Int32) (tn : Int32)  : Option (Int32 × Int32 × Int32) :=
  bd1 (f_FR_has (8 : Int32) q_flags) (fun r77 => (if r77 = 0 then (some ((0 : Int32), q_at, q_place) : Option (Int32 × Int32 × Int32)) else bd1 (f_Row_count tn) (fun r88 => bd1 (f_FR_sizeIs (r88 - q_start) q_sizeAt gn gf) (fun r96 => (if r96 = 0 then bd2 (f_FR_fault (11 : Int32) q_sizeAt) (fun r109 q_place_109 => (some (r109, q_at, q_place_109) : Option (Int32 × Int32 × Int32))) else (some ((0 : Int32), q_at, q_place) : Option (Int32 × Int32 × Int32)))))))
set_option maxHeartbeats 4000000 in
set_option maxRecDepth 100000 in
theorem k_FR_readTail_74 {r_z : Int32} {q_at_z : Int32} {q_place_z : Int32} (C : Fx p s m args meth c cd_FR_readTail 1 R_FR lw_g (some .int)) (hK : va_K (dC, dI) vwCl [(cB, .byte), (cI, .int), (cJ, .long)] s) (hA : ∀ q, s.heap.size ≤ q → A q) (q_at : Int32) (q_most : Int32) (q_flags : Int32) (q_great : Int32) (q_sizeAt : Int32) (q_start : Int32) (q_place : Int32) (gn : Int32) (gf : Nat → Int32) (tn : Int32) (tf : Nat → Int32)  (hf : j_FR_readTail_74 q_at q_flags q_sizeAt q_start q_place gn gf tn  = some (r_z, q_at_z, q_place_z)) (hP : va_P (dC, dI) vwCl (wd_FR_readTail fr g ga t ta br cB cI cJ q_at q_most q_flags q_great q_sizeAt q_start q_place gn gf tn tf) H) (hD : va_D A (wd_FR_readTail fr g ga t ta br cB cI cJ q_at q_most q_flags q_great q_sizeAt q_start q_place gn gf tn tf)) (hS : va_S A s.heap H locs) (hl : lv_has ls 1 [(0, .ref fr)]) : W p l e rm_FR_readTail s m args below meth c H locs 0 0 (MQ below (sQi (dC, dI) vwCl [(cB, .byte), (cI, .int), (cJ, .long)] A r_z (wd_FR_readTail fr g ga t ta br cB cI cJ q_at_z q_most q_flags q_great q_sizeAt q_start q_place_z gn gf tn tf)) args s 0 0 A) (F0 m 74 ls []) := by
  obtain ⟨hx, hb, hml, hown, hts, hr, hlocks, hZ⟩ := id C
  unfold j_FR_readTail_74 at hf
  refine lv_aload_n hx hb d_FR_readTail_74 rfl (lv_at hl 0 rfl) ?_
  refine lv_bipush (v := 8) hx hb d_FR_readTail_75 (by decide) ?_
  obtain ⟨r77, hc77, hf⟩ := bd1_some hf
  refine s_Vi (As := [.int (8 : Int32)]) (rest := []) (wr := [(g, .inr (1, [.ref ga, .int gn])), (ga, .inl (cB, 8000, .inl gf)), (t, .inr (1, [.ref ta, .int tn])), (ta, .inl (cB, 8000, .inl tf))]) (ws' := wd_FR_readTail fr g ga t ta br cB cI cJ q_at q_most q_flags q_great q_sizeAt q_start q_place gn gf tn tf) C.call (c_FR_has l dC dI cB cI cJ fr g t br  q_at q_most q_flags q_great q_sizeAt q_start q_place (8 : Int32) hc77) (cwV 1 hts (gd_V w_304 w_305 w_306 w_285 w_307) rfl rfl rfl ⟨rfl, hd_FR_has⟩ ⟨Nat.le_of_ble_eq_true rfl, Nat.le_of_ble_eq_true rfl⟩) rfl hl.1 rfl (Nat.le_of_ble_eq_true rfl) d_FR_readTail_77 ⟨Nat.le_of_ble_eq_true rfl, Nat.le_of_ble_eq_true rfl⟩ hZ hK hP hD hS hA 6 0 rfl rfl [0] [1, 2, 3, 4] [4, 0, 1, 2, 3] rfl rfl rfl rfl (by decide) rfl rfl (fun H locs hP hD hS => ?_)
  refine lv_if_eq (tgt := 113) hx hb d_FR_readTail_80 (by decide) (fun c_80 => ?_) (fun c_80 => ?_)
  · have hf := br_pos c_80 hf
    refine lv_iconst (v := 0) hx hb d_FR_readTail_113 (by decide) ?_
    cases hf
    exact s_iret hx hb hr hlocks hP hK hD hS d_FR_readTail_114
  · have hf := br_neg c_80 hf
    refine lv_aload_n hx hb d_FR_readTail_83 rfl (lv_at hl 0 rfl) ?_
    refine lv_aload_n hx hb d_FR_readTail_84 rfl (lv_at hl 0 rfl) ?_
    refine va_get (D := (dC, dI)) (ci := 6) (v := .ref t) (C := R_FR) (T := T_FR) (N := 10) hx hb hts w_278 hown hK hP 0 rfl rfl 1 (by decide) (hts _ w_300) (fun _ h9 => h9) rfl d_FR_readTail_85 ?_
    obtain ⟨r88, hc88, hf⟩ := bd1_some hf
    refine s_Vi (As := []) (rest := [.ref fr]) (wr := [(fr, .inr (6, [.ref g, .ref t, .ref br, .int q_at, .int q_most, .int q_flags, .int q_great, .int q_sizeAt, .int q_start, .int q_place])), (g, .inr (1, [.ref ga, .int gn])), (ga, .inl (cB, 8000, .inl gf)), (ta, .inl (cB, 8000, .inl tf))]) (ws' := wd_FR_readTail fr g ga t ta br cB cI cJ q_at q_most q_flags q_great q_sizeAt q_start q_place gn gf tn tf) C.call (c_Row_count l dC dI cB cI cJ t ta  tn  hc88) (cwV 0 hts (gd_V w_281 w_10 w_11 w_12 w_13) rfl rfl rfl ⟨rfl, hd_Row_count⟩ ⟨Nat.le_of_ble_eq_true rfl, Nat.le_of_ble_eq_true rfl⟩) rfl hl.1 rfl (Nat.le_of_ble_eq_true rfl) d_FR_readTail_88 ⟨Nat.le_of_ble_eq_true rfl, Nat.le_of_ble_eq_true rfl⟩ hZ hK hP hD hS hA 1 3 rfl rfl [3] [0, 1, 2, 4] [0, 1, 2, 4, 3] rfl rfl rfl rfl (by decide) rfl rfl (fun H locs hP hD hS => ?_)
    refine lv_aload_n hx hb d_FR_readTail_91 rfl (lv_at hl 0 rfl) ?_
    refine va_get (D := (dC, dI)) (ci := 6) (v := .int q_start) (C := R_FR) (T := T_FR) (N := 10) hx hb hts w_278 hown hK hP 0 rfl rfl 8 (by decide) (hts _ w_309) (fun _ h9 => h9) rfl d_FR_readTail_92 ?_
    refine lv_isub hx hb d_FR_readTail_95 ?_
    obtain ⟨r96, hc96, hf⟩ := bd1_some hf
    refine s_Vi (As := [.int (r88 - q_start)]) (rest := []) (wr := [(t, .inr (1, [.ref ta, .int tn])), (ta, .inl (cB, 8000, .inl tf))]) (ws' := wd_FR_readTail fr g ga t ta br cB cI cJ q_at q_most q_flags q_great q_sizeAt q_start q_place gn gf tn tf) C.call (c_FR_sizeIs l dC dI cB cI cJ fr g ga t br  q_at q_most q_flags q_great q_sizeAt q_start q_place gn gf (r88 - q_start) hc96) (cwV 1 hts (gd_V w_319 w_320 w_321 w_285 w_322) rfl rfl rfl ⟨rfl, hd_FR_sizeIs⟩ ⟨Nat.le_of_ble_eq_true rfl, Nat.le_of_ble_eq_true rfl⟩) rfl hl.1 rfl (Nat.le_of_ble_eq_true rfl) d_FR_readTail_96 ⟨Nat.le_of_ble_eq_true rfl, Nat.le_of_ble_eq_true rfl⟩ hZ hK hP hD hS hA 6 0 rfl rfl [0, 1, 2] [3, 4] [2, 3, 4, 0, 1] rfl rfl rfl rfl (by decide) rfl rfl (fun H locs hP hD hS => ?_)
    refine lv_if_ne (tgt := 113) hx hb d_FR_readTail_99 (by decide) (fun c_99 => ?_) (fun c_99 => ?_)
    · have hf := br_neg c_99 hf
      refine lv_iconst (v := 0) hx hb d_FR_readTail_113 (by decide) ?_
      cases hf
      exact s_iret hx hb hr hlocks hP hK hD hS d_FR_readTail_114
    · have hf := br_pos c_99 hf
      refine lv_aload_n hx hb d_FR_readTail_102 rfl (lv_at hl 0 rfl) ?_
      refine lv_bipush (v := 11) hx hb d_FR_readTail_103 (by decide) ?_
      refine lv_aload_n hx hb d_FR_readTail_105 rfl (lv_at hl 0 rfl) ?_
      refine va_get (D := (dC, dI)) (ci := 6) (v := .int q_sizeAt) (C := R_FR) (T := T_FR) (N := 10) hx hb hts w_278 hown hK hP 0 rfl rfl 7 (by decide) (hts _ w_318) (fun _ h9 => h9) rfl d_FR_readTail_106 ?_
      obtain ⟨r109, q_place_109, hc109, hf⟩ := bd2_some hf
      refine s_Vi (As := [.int (11 : Int32), .int q_sizeAt]) (rest := []) (wr := [(g, .inr (1, [.ref ga, .int gn])), (ga, .inl (cB, 8000, .inl gf)), (t, .inr (1, [.ref ta, .int tn])), (ta, .inl (cB, 8000, .inl tf))]) (ws' := wd_FR_readTail fr g ga t ta br cB cI cJ q_at q_most q_flags q_great q_sizeAt q_start q_place_109 gn gf tn tf) C.call (c_FR_fault l dC dI cB cI cJ fr g t br  q_at q_most q_flags q_great q_sizeAt q_start q_place (11 : Int32) q_sizeAt hc109) (cwV 2 hts (gd_V w_282 w_283 w_284 w_285 w_286) rfl rfl rfl ⟨rfl, hd_FR_fault⟩ ⟨Nat.le_of_ble_eq_true rfl, Nat.le_of_ble_eq_true rfl⟩) rfl hl.1 rfl (Nat.le_of_ble_eq_true rfl) d_FR_readTail_109 ⟨Nat.le_of_ble_eq_true rfl, Nat.le_of_ble_eq_true rfl⟩ hZ hK hP hD hS hA 6 0 rfl rfl [0] [1, 2, 3, 4] [4, 0, 1, 2, 3] rfl rfl rfl rfl (by decide) rfl rfl (fun H locs hP hD hS => ?_)
      cases hf
      exact s_iret hx hb hr hlocks hP hK hD hS d_FR_readTail_112
noncomputable def j_FR_readTail_0 (N : Nat) (q_at : Int32) (q_flags : Int32) (q_sizeAt : Int32) (q_start : Int32) (q_place : Int32) (gn : Int32) (gf : Nat → Int32) (tn : Int32) (tf : Nat → Int32)  : Option (Int32 × Int32 × Int32) :=
  bd1 (f_FR_has (4 : Int32) q_flags) (fun r2 => (if r2 = 0 then (j_FR_readTail_74 q_at q_flags q_sizeAt q_start q_place gn gf tn ) else bd1 (f_FR_left q_at gn) (fun r9 => (if (4 : Int32) ≤ r9 then bd1 (f_Row_word 8000 q_at gn gf) (fun r29 => bd1 (f_Row_count tn) (fun r44 => bd1 (f_Sum_of N 8000 q_start r44 tn tf) (fun r47 => (if r29 = r47 then (j_FR_readTail_74 (q_at + (4 : Int32)) q_flags q_sizeAt q_start q_place gn gf tn ) else bd2 (f_FR_fault (10 : Int32) q_at) (fun r60 q_place_60 => (some (r60, q_at, q_place_60) : Option (Int32 × Int32 × Int32))))))) else bd2 (f_FR_cut gn) (fun r17 q_place_17 => (some (r17, q_at, q_place_17) : Option (Int32 × Int32 × Int32)))))))
set_option maxHeartbeats 4000000 in
set_option maxRecDepth 100000 in
theorem k_FR_readTail_0 {r_z : Int32} {q_at_z : Int32} {q_place_z : Int32} (C : Fx p s m args meth c cd_FR_readTail 1 R_FR lw_g (some .int)) (hK : va_K (dC, dI) vwCl [(cB, .byte), (cI, .int), (cJ, .long)] s) (hA : ∀ q, s.heap.size ≤ q → A q) (q_at : Int32) (q_most : Int32) (q_flags : Int32) (q_great : Int32) (q_sizeAt : Int32) (q_start : Int32) (q_place : Int32) (gn : Int32) (gf : Nat → Int32) (tn : Int32) (tf : Nat → Int32)  (hf : j_FR_readTail_0 N q_at q_flags q_sizeAt q_start q_place gn gf tn tf  = some (r_z, q_at_z, q_place_z)) (hP : va_P (dC, dI) vwCl (wd_FR_readTail fr g ga t ta br cB cI cJ q_at q_most q_flags q_great q_sizeAt q_start q_place gn gf tn tf) H) (hD : va_D A (wd_FR_readTail fr g ga t ta br cB cI cJ q_at q_most q_flags q_great q_sizeAt q_start q_place gn gf tn tf)) (hS : va_S A s.heap H locs) (hl : lv_has ls 1 [(0, .ref fr)]) : W p l e rm_FR_readTail s m args below meth c H locs 0 0 (MQ below (sQi (dC, dI) vwCl [(cB, .byte), (cI, .int), (cJ, .long)] A r_z (wd_FR_readTail fr g ga t ta br cB cI cJ q_at_z q_most q_flags q_great q_sizeAt q_start q_place_z gn gf tn tf)) args s 0 0 A) (F0 m 0 ls []) := by
  obtain ⟨hx, hb, hml, hown, hts, hr, hlocks, hZ⟩ := id C
  unfold j_FR_readTail_0 at hf
  refine lv_aload_n hx hb d_FR_readTail_0 rfl (lv_at hl 0 rfl) ?_
  refine lv_iconst (v := 4) hx hb d_FR_readTail_1 (by decide) ?_
  obtain ⟨r2, hc2, hf⟩ := bd1_some hf
  refine s_Vi (As := [.int (4 : Int32)]) (rest := []) (wr := [(g, .inr (1, [.ref ga, .int gn])), (ga, .inl (cB, 8000, .inl gf)), (t, .inr (1, [.ref ta, .int tn])), (ta, .inl (cB, 8000, .inl tf))]) (ws' := wd_FR_readTail fr g ga t ta br cB cI cJ q_at q_most q_flags q_great q_sizeAt q_start q_place gn gf tn tf) C.call (c_FR_has l dC dI cB cI cJ fr g t br  q_at q_most q_flags q_great q_sizeAt q_start q_place (4 : Int32) hc2) (cwV 1 hts (gd_V w_304 w_305 w_306 w_285 w_307) rfl rfl rfl ⟨rfl, hd_FR_has⟩ ⟨Nat.le_of_ble_eq_true rfl, Nat.le_of_ble_eq_true rfl⟩) rfl hl.1 rfl (Nat.le_of_ble_eq_true rfl) d_FR_readTail_2 ⟨Nat.le_of_ble_eq_true rfl, Nat.le_of_ble_eq_true rfl⟩ hZ hK hP hD hS hA 6 0 rfl rfl [0] [1, 2, 3, 4] [4, 0, 1, 2, 3] rfl rfl rfl rfl (by decide) rfl rfl (fun H locs hP hD hS => ?_)
  refine lv_if_eq (tgt := 74) hx hb d_FR_readTail_5 (by decide) (fun c_5 => ?_) (fun c_5 => ?_)
  · have hf := br_pos c_5 hf
    exact k_FR_readTail_74 C hK hA q_at q_most q_flags q_great q_sizeAt q_start q_place gn gf tn tf  hf hP hD hS (lv_sub hl [0] rfl)
  · have hf := br_neg c_5 hf
    refine lv_aload_n hx hb d_FR_readTail_8 rfl (lv_at hl 0 rfl) ?_
    obtain ⟨r9, hc9, hf⟩ := bd1_some hf
    refine s_Vi (As := []) (rest := []) (wr := [(ga, .inl (cB, 8000, .inl gf)), (t, .inr (1, [.ref ta, .int tn])), (ta, .inl (cB, 8000, .inl tf))]) (ws' := wd_FR_readTail fr g ga t ta br cB cI cJ q_at q_most q_flags q_great q_sizeAt q_start q_place gn gf tn tf) C.call (c_FR_left l dC dI cB cI cJ fr g t br ga  q_at q_most q_flags q_great q_sizeAt q_start q_place gn  hc9) (cwV 0 hts (gd_V w_288 w_289 w_290 w_285 w_291) rfl rfl rfl ⟨rfl, hd_FR_left⟩ ⟨Nat.le_of_ble_eq_true rfl, Nat.le_of_ble_eq_true rfl⟩) rfl hl.1 rfl (Nat.le_of_ble_eq_true rfl) d_FR_readTail_9 ⟨Nat.le_of_ble_eq_true rfl, Nat.le_of_ble_eq_true rfl⟩ hZ hK hP hD hS hA 6 0 rfl rfl [0, 1] [2, 3, 4] [3, 4, 0, 1, 2] rfl rfl rfl rfl (by decide) rfl rfl (fun H locs hP hD hS => ?_)
    refine lv_iconst (v := 4) hx hb d_FR_readTail_12 (by decide) ?_
    refine lv_icmp_ge (tgt := 21) hx hb d_FR_readTail_13 (by decide) (fun c_13 => ?_) (fun c_13 => ?_)
    · have hf := br_pos c_13 hf
      refine lv_aload_n hx hb d_FR_readTail_21 rfl (lv_at hl 0 rfl) ?_
      refine va_get (D := (dC, dI)) (ci := 6) (v := .ref g) (C := R_FR) (T := T_FR) (N := 10) hx hb hts w_278 hown hK hP 0 rfl rfl 0 (by decide) (hts _ w_280) (fun _ h9 => h9) rfl d_FR_readTail_22 ?_
      refine lv_aload_n hx hb d_FR_readTail_25 rfl (lv_at hl 0 rfl) ?_
      refine va_get (D := (dC, dI)) (ci := 6) (v := .int q_at) (C := R_FR) (T := T_FR) (N := 10) hx hb hts w_278 hown hK hP 0 rfl rfl 3 (by decide) (hts _ w_287) (fun _ h9 => h9) rfl d_FR_readTail_26 ?_
      obtain ⟨r29, hc29, hf⟩ := bd1_some hf
      refine s_Vi (As := [.int q_at]) (rest := []) (wr := [(fr, .inr (6, [.ref g, .ref t, .ref br, .int q_at, .int q_most, .int q_flags, .int q_great, .int q_sizeAt, .int q_start, .int q_place])), (t, .inr (1, [.ref ta, .int tn])), (ta, .inl (cB, 8000, .inl tf))]) (ws' := wd_FR_readTail fr g ga t ta br cB cI cJ q_at q_most q_flags q_great q_sizeAt q_start q_place gn gf tn tf) C.call (c_Row_word l dC dI cB cI cJ g ga 8000 gn gf q_at hc29) (cwV 1 hts (gd_V w_292 w_59 w_60 w_12 w_61) rfl rfl rfl ⟨rfl, hd_Row_word⟩ ⟨Nat.le_of_ble_eq_true rfl, Nat.le_of_ble_eq_true rfl⟩) rfl hl.1 rfl (Nat.le_of_ble_eq_true rfl) d_FR_readTail_29 ⟨Nat.le_of_ble_eq_true rfl, Nat.le_of_ble_eq_true rfl⟩ hZ hK hP hD hS hA 1 1 rfl rfl [1, 2] [0, 3, 4] [0, 3, 4, 1, 2] rfl rfl rfl rfl (by decide) rfl rfl (fun H locs hP hD hS => ?_)
      refine lv_aload_n hx hb d_FR_readTail_32 rfl (lv_at hl 0 rfl) ?_
      refine va_get (D := (dC, dI)) (ci := 6) (v := .ref t) (C := R_FR) (T := T_FR) (N := 10) hx hb hts w_278 hown hK hP 0 rfl rfl 1 (by decide) (hts _ w_300) (fun _ h9 => h9) rfl d_FR_readTail_33 ?_
      refine lv_aload_n hx hb d_FR_readTail_36 rfl (lv_at hl 0 rfl) ?_
      refine va_get (D := (dC, dI)) (ci := 6) (v := .int q_start) (C := R_FR) (T := T_FR) (N := 10) hx hb hts w_278 hown hK hP 0 rfl rfl 8 (by decide) (hts _ w_309) (fun _ h9 => h9) rfl d_FR_readTail_37 ?_
      refine lv_aload_n hx hb d_FR_readTail_40 rfl (lv_at hl 0 rfl) ?_
      refine va_get (D := (dC, dI)) (ci := 6) (v := .ref t) (C := R_FR) (T := T_FR) (N := 10) hx hb hts w_278 hown hK hP 0 rfl rfl 1 (by decide) (hts _ w_300) (fun _ h9 => h9) rfl d_FR_readTail_41 ?_
      obtain ⟨r44, hc44, hf⟩ := bd1_some hf
      refine s_Vi (As := []) (rest := [.int q_start, .ref t, .int r29]) (wr := [(fr, .inr (6, [.ref g, .ref t, .ref br, .int q_at, .int q_most, .int q_flags, .int q_great, .int q_sizeAt, .int q_start, .int q_place])), (g, .inr (1, [.ref ga, .int gn])), (ga, .inl (cB, 8000, .inl gf)), (ta, .inl (cB, 8000, .inl tf))]) (ws' := wd_FR_readTail fr g ga t ta br cB cI cJ q_at q_most q_flags q_great q_sizeAt q_start q_place gn gf tn tf) C.call (c_Row_count l dC dI cB cI cJ t ta  tn  hc44) (cwV 0 hts (gd_V w_281 w_10 w_11 w_12 w_13) rfl rfl rfl ⟨rfl, hd_Row_count⟩ ⟨Nat.le_of_ble_eq_true rfl, Nat.le_of_ble_eq_true rfl⟩) rfl hl.1 rfl (Nat.le_of_ble_eq_true rfl) d_FR_readTail_44 ⟨Nat.le_of_ble_eq_true rfl, Nat.le_of_ble_eq_true rfl⟩ hZ hK hP hD hS hA 1 3 rfl rfl [3] [0, 1, 2, 4] [0, 1, 2, 4, 3] rfl rfl rfl rfl (by decide) rfl rfl (fun H locs hP hD hS => ?_)
      obtain ⟨r47, hc47, hf⟩ := bd1_some hf
      refine s_Si (As := [.ref t, .int q_start, .int r44]) (rest := [.int r29]) (wr := [(fr, .inr (6, [.ref g, .ref t, .ref br, .int q_at, .int q_most, .int q_flags, .int q_great, .int q_sizeAt, .int q_start, .int q_place])), (g, .inr (1, [.ref ga, .int gn])), (ga, .inl (cB, 8000, .inl gf))]) (ws' := wd_FR_readTail fr g ga t ta br cB cI cJ q_at q_most q_flags q_great q_sizeAt q_start q_place gn gf tn tf) C.call (c_Sum_of l dC dI cB cI cJ t ta 8000 tn tf q_start r44 hc47) (va_cwS 3 hts (gd_S w_316 w_175 w_149 w_176) rfl rfl rfl hd_Sum_of ⟨Nat.le_of_ble_eq_true rfl, Nat.le_of_ble_eq_true rfl⟩) rfl hl.1 rfl (Nat.le_of_ble_eq_true rfl) d_FR_readTail_47 ⟨Nat.le_of_ble_eq_true rfl, Nat.le_of_ble_eq_true rfl⟩ hZ hK hP hD hS hA [3, 4] [0, 1, 2] [0, 1, 2, 3, 4] rfl rfl rfl rfl (by decide) rfl rfl (fun H locs hP hD hS => ?_)
      refine lv_icmp_eq (tgt := 64) hx hb d_FR_readTail_50 (by decide) (fun c_50 => ?_) (fun c_50 => ?_)
      · have hf := br_pos c_50 hf
        refine lv_aload_n hx hb d_FR_readTail_64 rfl (lv_at hl 0 rfl) ?_
        refine lv_dup hx hb d_FR_readTail_65 rfl ?_
        refine va_get (D := (dC, dI)) (ci := 6) (v := .int q_at) (C := R_FR) (T := T_FR) (N := 10) hx hb hts w_278 hown hK hP 0 rfl rfl 3 (by decide) (hts _ w_287) (fun _ h9 => h9) rfl d_FR_readTail_66 ?_
        refine lv_iconst (v := 4) hx hb d_FR_readTail_69 (by decide) ?_
        refine lv_iadd hx hb d_FR_readTail_70 ?_
        refine va_put (D := (dC, dI)) (ci := 6) (v := .int (q_at + (4 : Int32))) (ty := .int) (C := R_FR) (T := T_FR) (N := 10) hx hb hts w_278 ty_FR ty_FR_ok nm_FR hown hK hP hD hS 0 rfl rfl 3 (by decide) (hts _ w_287) (fun _ h9 => h9) rfl (by decide +kernel) rfl rfl (Nat.le_of_ble_eq_true rfl) d_FR_readTail_71 (fun H locs hP hD hS => ?_)
        have hP : va_P (dC, dI) vwCl (wd_FR_readTail fr g ga t ta br cB cI cJ (q_at + (4 : Int32)) q_most q_flags q_great q_sizeAt q_start q_place gn gf tn tf) H := hP
        have hD : va_D A (wd_FR_readTail fr g ga t ta br cB cI cJ (q_at + (4 : Int32)) q_most q_flags q_great q_sizeAt q_start q_place gn gf tn tf) := hD
        exact k_FR_readTail_74 C hK hA (q_at + (4 : Int32)) q_most q_flags q_great q_sizeAt q_start q_place gn gf tn tf  hf hP hD hS (lv_sub hl [0] rfl)
      · have hf := br_neg c_50 hf
        refine lv_aload_n hx hb d_FR_readTail_53 rfl (lv_at hl 0 rfl) ?_
        refine lv_bipush (v := 10) hx hb d_FR_readTail_54 (by decide) ?_
        refine lv_aload_n hx hb d_FR_readTail_56 rfl (lv_at hl 0 rfl) ?_
        refine va_get (D := (dC, dI)) (ci := 6) (v := .int q_at) (C := R_FR) (T := T_FR) (N := 10) hx hb hts w_278 hown hK hP 0 rfl rfl 3 (by decide) (hts _ w_287) (fun _ h9 => h9) rfl d_FR_readTail_57 ?_
        obtain ⟨r60, q_place_60, hc60, hf⟩ := bd2_some hf
        refine s_Vi (As := [.int (10 : Int32), .int q_at]) (rest := []) (wr := [(g, .inr (1, [.ref ga, .int gn])), (ga, .inl (cB, 8000, .inl gf)), (t, .inr (1, [.ref ta, .int tn])), (ta, .inl (cB, 8000, .inl tf))]) (ws' := wd_FR_readTail fr g ga t ta br cB cI cJ q_at q_most q_flags q_great q_sizeAt q_start q_place_60 gn gf tn tf) C.call (c_FR_fault l dC dI cB cI cJ fr g t br  q_at q_most q_flags q_great q_sizeAt q_start q_place (10 : Int32) q_at hc60) (cwV 2 hts (gd_V w_282 w_283 w_284 w_285 w_286) rfl rfl rfl ⟨rfl, hd_FR_fault⟩ ⟨Nat.le_of_ble_eq_true rfl, Nat.le_of_ble_eq_true rfl⟩) rfl hl.1 rfl (Nat.le_of_ble_eq_true rfl) d_FR_readTail_60 ⟨Nat.le_of_ble_eq_true rfl, Nat.le_of_ble_eq_true rfl⟩ hZ hK hP hD hS hA 6 0 rfl rfl [0] [1, 2, 3, 4] [4, 0, 1, 2, 3] rfl rfl rfl rfl (by decide) rfl rfl (fun H locs hP hD hS => ?_)
        cases hf
        exact s_iret hx hb hr hlocks hP hK hD hS d_FR_readTail_63
    · have hf := br_neg c_13 hf
      refine lv_aload_n hx hb d_FR_readTail_16 rfl (lv_at hl 0 rfl) ?_
      obtain ⟨r17, q_place_17, hc17, hf⟩ := bd2_some hf
      refine s_Vi (As := []) (rest := []) (wr := [(ga, .inl (cB, 8000, .inl gf)), (t, .inr (1, [.ref ta, .int tn])), (ta, .inl (cB, 8000, .inl tf))]) (ws' := wd_FR_readTail fr g ga t ta br cB cI cJ q_at q_most q_flags q_great q_sizeAt q_start q_place_17 gn gf tn tf) C.call (c_FR_cut l dC dI cB cI cJ fr g t br ga  q_at q_most q_flags q_great q_sizeAt q_start q_place gn  hc17) (cwV 0 hts (gd_V w_294 w_295 w_296 w_285 w_297) rfl rfl rfl ⟨rfl, hd_FR_cut⟩ ⟨Nat.le_of_ble_eq_true rfl, Nat.le_of_ble_eq_true rfl⟩) rfl hl.1 rfl (Nat.le_of_ble_eq_true rfl) d_FR_readTail_17 ⟨Nat.le_of_ble_eq_true rfl, Nat.le_of_ble_eq_true rfl⟩ hZ hK hP hD hS hA 6 0 rfl rfl [0, 1] [2, 3, 4] [3, 4, 0, 1, 2] rfl rfl rfl rfl (by decide) rfl rfl (fun H locs hP hD hS => ?_)
      cases hf
      exact s_iret hx hb hr hlocks hP hK hD hS d_FR_readTail_20
end
noncomputable abbrev f_FR_readTail (N : Nat) (q_at : Int32) (q_flags : Int32) (q_sizeAt : Int32) (q_start : Int32) (q_place : Int32) (gn : Int32) (gf : Nat → Int32) (tn : Int32) (tf : Nat → Int32) : Option (Int32 × Int32 × Int32) := j_FR_readTail_0 N q_at q_flags q_sizeAt q_start q_place gn gf tn tf
set_option maxRecDepth 100000 in
theorem c_FR_readTail {N : Nat} (l : Launch) (dC : Nat → ClassId) (dI : Nat → Nat → Nat) (cB cI cJ : ClassId) (fr g ga t ta br : Nat) (q_at : Int32) (q_most : Int32) (q_flags : Int32) (q_great : Int32) (q_sizeAt : Int32) (q_start : Int32) (q_place : Int32) (gn : Int32) (gf : Nat → Int32) (tn : Int32) (tf : Nat → Int32)  {r_z : Int32} {q_at_z : Int32} {q_place_z : Int32} (hf : f_FR_readTail N q_at q_flags q_sizeAt q_start q_place gn gf tn tf = some (r_z, q_at_z, q_place_z)) : MetI l y_FR_readTail ws_FR_readTail rm_FR_readTail (dC, dI) vwCl [(cB, .byte), (cI, .int), (cJ, .long)] [.ref fr] (wd_FR_readTail fr g ga t ta br cB cI cJ q_at q_most q_flags q_great q_sizeAt q_start q_place gn gf tn tf) r_z (wd_FR_readTail fr g ga t ta br cB cI cJ q_at_z q_most q_flags q_great q_sizeAt q_start q_place_z gn gf tn tf) 0 0 :=
  s_ofi (bytes := cd_FR_readTail) (maxL := 1) (ret := (some .int)) (by decide) rfl (Nat.le_of_ble_eq_true rfl) (fun p e s m below meth c A ls C hK hA hP hD hS hl => k_FR_readTail_0 C hK hA q_at q_most q_flags q_great q_sizeAt q_start q_place gn gf tn tf hf hP hD hS (lv_sub hl [0] rfl))
