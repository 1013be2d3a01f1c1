abbrev wd_T_again (x g ga u hs t bw fw br fr : Nat) (cB cI cJ : ClassId) (xp : Int32) (gn : Int32) (gf : Nat → Int32) : va_W := [(x, .inr (0, [.ref g, .ref u, .ref hs, .ref t, .ref bw, .ref fw, .ref br, .ref fr, .int xp])), (g, .inr (1, [.ref ga, .int gn])), (ga, .inl (cB, 8000, .inl gf))]
abbrev rm_T_again : Room := { frames := 2, cells := 0, slots := 0, locals := 42 }
section
variable {p : Program} {l : Launch} {e : Env} {s : State} {m : MethodId} {args : Array Value} {below : List Frame} {meth : Method} {c : Code} {dC : Nat → ClassId} {dI : Nat → Nat → Nat} {A : Nat → Prop} {cB cI cJ : ClassId} {H : Heap} {locs : List Loc} {ls : Array Slot} {N : Nat} {x g ga u hs t bw fw br fr : Nat}
noncomputable def b_T_again_39 (x1 : Int32) (x2 : Int32)  (kh39 : Int32 → Int32 → (Nat → Int32) → Option (Int32 × Int32 × (Nat → Int32))) (x3 : Int32) (gn : Int32) (gf : Nat → Int32) : Option (Int32 × Int32 × (Nat → Int32)) :=
  (if x2 ≤ x3 then (some ((1 : Int32), gn, gf) : Option (Int32 × Int32 × (Nat → Int32))) else bd1 (f_Row_count gn) (fun r56 => bd1 (f_Row_count gn) (fun r65 => bd3 (f_Row_addFrom_s 8000 (r56 - x1) r65 gn gf) (fun r68 gn_68 gf_68 => (kh39 (x3 + 1) gn_68 gf_68)))))
set_option maxHeartbeats 4000000 in
set_option maxRecDepth 100000 in
theorem k_T_again_39 {r_z : Int32} {gn_z : Int32} {gf_z : Nat → Int32} (C : Fx p s m args meth c cd_T_again 4 R_T lw_g (some .boolean)) (hK : va_K (dC, dI) vwCl [(cB, .byte), (cI, .int), (cJ, .long)] s) (hA : ∀ q, s.heap.size ≤ q → A q) (x1 : Int32) (x2 : Int32) (xp : Int32)  : ∀ (n : Nat) (x3 : Int32) (gn : Int32) (gf : Nat → Int32), loop3 (b_T_again_39 x1 x2 ) n x3 gn gf = some (r_z, gn_z, gf_z) → ∀ (H : Heap) (locs : List Loc), va_P (dC, dI) vwCl (wd_T_again x g ga u hs t bw fw br fr cB cI cJ xp gn gf) H → va_D A (wd_T_again x g ga u hs t bw fw br fr cB cI cJ xp gn gf) → va_S A s.heap H locs → ∀ (ls : Array Slot), lv_has ls 4 [(0, .ref x), (1, .int x1), (2, .int x2), (3, .int x3)] → W p l e rm_T_again s m args below meth c H locs 0 0 (MQ below (sQi (dC, dI) vwCl [(cB, .byte), (cI, .int), (cJ, .long)] A r_z (wd_T_again x g ga u hs t bw fw br fr cB cI cJ xp gn_z gf_z)) args s 0 0 A) (F0 m 39 ls []) := by
  obtain ⟨hx, hb, hml, hown, hts, hr, hlocks, hZ⟩ := id C
  intro n
  induction n with
  | zero => intro x3 gn gf hf; cases hf
  | succ n ih39 =>
    intro x3 gn gf hf H locs hP hD hS ls hl
    have hf : b_T_again_39 x1 x2  (loop3 (b_T_again_39 x1 x2 ) n) x3 gn gf = some (r_z, gn_z, gf_z) := hf
    generalize loop3 (b_T_again_39 x1 x2 ) n = kh39 at hf ih39
    unfold b_T_again_39 at hf
    refine lv_iload_n hx hb d_T_again_39 rfl (lv_at hl 3 rfl) ?_
    refine lv_iload_n hx hb d_T_again_40 rfl (lv_at hl 2 rfl) ?_
    refine lv_icmp_ge (tgt := 78) hx hb d_T_again_41 (by decide) (fun c_41 => ?_) (fun c_41 => ?_)
    · have hf := br_pos c_41 hf
      refine lv_iconst (v := 1) hx hb d_T_again_78 (by decide) ?_
      cases hf
      exact s_zret hx hb hr (by decide) hlocks hP hK hD hS d_T_again_79
    · have hf := br_neg c_41 hf
      refine lv_aload_n hx hb d_T_again_44 rfl (lv_at hl 0 rfl) ?_
      refine va_get (D := (dC, dI)) (ci := 0) (v := .ref g) (C := R_T) (T := T_T) (N := 9) hx hb hts w_7 hown hK hP 0 rfl rfl 0 (by decide) (hts _ w_8) (fun _ h9 => h9) rfl d_T_again_45 ?_
      refine lv_aload_n hx hb d_T_again_48 rfl (lv_at hl 0 rfl) ?_
      refine va_get (D := (dC, dI)) (ci := 0) (v := .ref g) (C := R_T) (T := T_T) (N := 9) hx hb hts w_7 hown hK hP 0 rfl rfl 0 (by decide) (hts _ w_8) (fun _ h9 => h9) rfl d_T_again_49 ?_
      refine lv_aload_n hx hb d_T_again_52 rfl (lv_at hl 0 rfl) ?_
      refine va_get (D := (dC, dI)) (ci := 0) (v := .ref g) (C := R_T) (T := T_T) (N := 9) hx hb hts w_7 hown hK hP 0 rfl rfl 0 (by decide) (hts _ w_8) (fun _ h9 => h9) rfl d_T_again_53 ?_
      obtain ⟨r56, hc56, hf⟩ := bd1_some hf
      refine s_Vi (As := []) (rest := [.ref g, .ref g]) (wr := [(x, .inr (0, [.ref g, .ref u, .ref hs, .ref t, .ref bw, .ref fw, .ref br, .ref fr, .int xp])), (ga, .inl (cB, 8000, .inl gf))]) (ws' := wd_T_again x g ga u hs t bw fw br fr cB cI cJ xp gn gf) C.call (c_Row_count l dC dI cB cI cJ g ga  gn  hc56) (cwV 0 hts (gd_V w_9 w_10 w_11 w_12 w_13) rfl rfl rfl ⟨rfl, hd_Row_count⟩ ⟨Nat.le_of_ble_eq_true rfl, Nat.le_of_ble_eq_true rfl⟩) rfl hl.1 rfl (Nat.le_of_ble_eq_true rfl) d_T_again_56 ⟨Nat.le_of_ble_eq_true rfl, Nat.le_of_ble_eq_true rfl⟩ hZ hK hP hD hS hA 1 1 rfl rfl [1] [0, 2] [0, 2, 1] rfl rfl rfl rfl (by decide) rfl rfl (fun H locs hP hD hS => ?_)
      refine lv_iload_n hx hb d_T_again_59 rfl (lv_at hl 1 rfl) ?_
      refine lv_isub hx hb d_T_again_60 ?_
      refine lv_aload_n hx hb d_T_again_61 rfl (lv_at hl 0 rfl) ?_
      refine va_get (D := (dC, dI)) (ci := 0) (v := .ref g) (C := R_T) (T := T_T) (N := 9) hx hb hts w_7 hown hK hP 0 rfl rfl 0 (by decide) (hts _ w_8) (fun _ h9 => h9) rfl d_T_again_62 ?_
      obtain ⟨r65, hc65, hf⟩ := bd1_some hf
      refine s_Vi (As := []) (rest := [.int (r56 - x1), .ref g, .ref g]) (wr := [(x, .inr (0, [.ref g, .ref u, .ref hs, .ref t, .ref bw, .ref fw, .ref br, .ref fr, .int xp])), (ga, .inl (cB, 8000, .inl gf))]) (ws' := wd_T_again x g ga u hs t bw fw br fr cB cI cJ xp gn gf) C.call (c_Row_count l dC dI cB cI cJ g ga  gn  hc65) (cwV 0 hts (gd_V w_9 w_10 w_11 w_12 w_13) rfl rfl rfl ⟨rfl, hd_Row_count⟩ ⟨Nat.le_of_ble_eq_true rfl, Nat.le_of_ble_eq_true rfl⟩) rfl hl.1 rfl (Nat.le_of_ble_eq_true rfl) d_T_again_65 ⟨Nat.le_of_ble_eq_true rfl, Nat.le_of_ble_eq_true rfl⟩ hZ hK hP hD hS hA 1 1 rfl rfl [1] [0, 2] [0, 2, 1] rfl rfl rfl rfl (by decide) rfl rfl (fun H locs hP hD hS => ?_)
      obtain ⟨r68, gn_68, gf_68, hc68, hf⟩ := bd3_some hf
      refine s_Vi (As := [.ref g, .int (r56 - x1), .int r65]) (rest := []) (wr := [(x, .inr (0, [.ref g, .ref u, .ref hs, .ref t, .ref bw, .ref fw, .ref br, .ref fr, .int xp]))]) (ws' := wd_T_again x g ga u hs t bw fw br fr cB cI cJ xp gn_68 gf_68) C.call (c_Row_addFrom_s l dC dI cB cI cJ g ga 8000 gn gf (r56 - x1) r65 hc68) (cwV 3 hts (gd_V w_18 w_19 w_20 w_12 w_21) rfl rfl rfl ⟨rfl, hd_Row_addFrom⟩ ⟨Nat.le_of_ble_eq_true rfl, Nat.le_of_ble_eq_true rfl⟩) rfl hl.1 rfl (Nat.le_of_ble_eq_true rfl) d_T_again_68 ⟨Nat.le_of_ble_eq_true rfl, Nat.le_of_ble_eq_true rfl⟩ hZ hK hP hD hS hA 1 1 rfl rfl [1, 2] [0] [0, 1, 2] rfl rfl rfl rfl (by decide) rfl rfl (fun H locs hP hD hS => ?_)
      refine lv_pop hx hb d_T_again_71 rfl ?_
      refine lv_iinc (v := (x3 + 1)) (lv' := [(3, .int (x3 + 1)), (0, .ref x), (1, .int x1), (2, .int x2)]) hx hb d_T_again_72 hl (k := 3) rfl (congrArg (fun z => x3 + z) (by decide)) (by decide) rfl (fun ls hl => ?_)
      refine lv_goto (tgt := 39) hx hb d_T_again_75 (by decide) ?_
      exact ih39 (x3 + 1) gn_68 gf_68 hf _ _ hP hD hS _ (lv_sub hl [1, 2, 3, 0] rfl)
noncomputable def j_T_again_0 (N : Nat) (x1 : Int32) (x2 : Int32) (gn : Int32) (gf : Nat → Int32)  : Option (Int32 × Int32 × (Nat → Int32)) :=
  (if x1 < (1 : Int32) then (some ((0 : Int32), gn, gf) : Option (Int32 × Int32 × (Nat → Int32))) else bd1 (f_Row_count gn) (fun r10 => (if r10 < x1 then (some ((0 : Int32), gn, gf) : Option (Int32 × Int32 × (Nat → Int32))) else (if x2 < 0 then (some ((0 : Int32), gn, gf) : Option (Int32 × Int32 × (Nat → Int32))) else bd1 (f_Row_hasRoomFor 8000 ((x1.toInt64) * (x2.toInt64)) gn) (fun r29 => (if r29 = 0 then (some ((0 : Int32), gn, gf) : Option (Int32 × Int32 × (Nat → Int32))) else (loop3 (b_T_again_39 x1 x2 ) N (0 : Int32) gn gf)))))))
set_option maxHeartbeats 4000000 in
set_option maxRecDepth 100000 in
theorem k_T_again_0 {r_z : Int32} {gn_z : Int32} {gf_z : Nat → Int32} (C : Fx p s m args meth c cd_T_again 4 R_T lw_g (some .boolean)) (hK : va_K (dC, dI) vwCl [(cB, .byte), (cI, .int), (cJ, .long)] s) (hA : ∀ q, s.heap.size ≤ q → A q) (x1 : Int32) (x2 : Int32) (xp : Int32) (gn : Int32) (gf : Nat → Int32)  (hf : j_T_again_0 N x1 x2 gn gf  = some (r_z, gn_z, gf_z)) (hP : va_P (dC, dI) vwCl (wd_T_again x g ga u hs t bw fw br fr cB cI cJ xp gn gf) H) (hD : va_D A (wd_T_again x g ga u hs t bw fw br fr cB cI cJ xp gn gf)) (hS : va_S A s.heap H locs) (hl : lv_has ls 4 [(0, .ref x), (1, .int x1), (2, .int x2)]) : W p l e rm_T_again s m args below meth c H locs 0 0 (MQ below (sQi (dC, dI) vwCl [(cB, .byte), (cI, .int), (cJ, .long)] A r_z (wd_T_again x g ga u hs t bw fw br fr cB cI cJ xp gn_z gf_z)) args s 0 0 A) (F0 m 0 ls []) := by
  obtain ⟨hx, hb, hml, hown, hts, hr, hlocks, hZ⟩ := id C
  unfold j_T_again_0 at hf
  refine lv_iload_n hx hb d_T_again_0 rfl (lv_at hl 1 rfl) ?_
  refine lv_iconst (v := 1) hx hb d_T_again_1 (by decide) ?_
  refine lv_icmp_lt (tgt := 35) hx hb d_T_again_2 (by decide) (fun c_2 => ?_) (fun c_2 => ?_)
  · have hf := br_pos c_2 hf
    refine lv_iconst (v := 0) hx hb d_T_again_35 (by decide) ?_
    cases hf
    exact s_zret hx hb hr (by decide) hlocks hP hK hD hS d_T_again_36
  · have hf := br_neg c_2 hf
    refine lv_iload_n hx hb d_T_again_5 rfl (lv_at hl 1 rfl) ?_
    refine lv_aload_n hx hb d_T_again_6 rfl (lv_at hl 0 rfl) ?_
    refine va_get (D := (dC, dI)) (ci := 0) (v := .ref g) (C := R_T) (T := T_T) (N := 9) hx hb hts w_7 hown hK hP 0 rfl rfl 0 (by decide) (hts _ w_8) (fun _ h9 => h9) rfl d_T_again_7 ?_
    obtain ⟨r10, hc10, hf⟩ := bd1_some hf
    refine s_Vi (As := []) (rest := [.int x1]) (wr := [(x, .inr (0, [.ref g, .ref u, .ref hs, .ref t, .ref bw, .ref fw, .ref br, .ref fr, .int xp])), (ga, .inl (cB, 8000, .inl gf))]) (ws' := wd_T_again x g ga u hs t bw fw br fr cB cI cJ xp gn gf) C.call (c_Row_count l dC dI cB cI cJ g ga  gn  hc10) (cwV 0 hts (gd_V w_9 w_10 w_11 w_12 w_13) rfl rfl rfl ⟨rfl, hd_Row_count⟩ ⟨Nat.le_of_ble_eq_true rfl, Nat.le_of_ble_eq_true rfl⟩) rfl hl.1 rfl (Nat.le_of_ble_eq_true rfl) d_T_again_10 ⟨Nat.le_of_ble_eq_true rfl, Nat.le_of_ble_eq_true rfl⟩ hZ hK hP hD hS hA 1 1 rfl rfl [1] [0, 2] [0, 2, 1] rfl rfl rfl rfl (by decide) rfl rfl (fun H locs hP hD hS => ?_)
    refine lv_icmp_gt (tgt := 35) hx hb d_T_again_13 (by decide) (fun c_13 => ?_) (fun c_13 => ?_)
    · have hf := br_pos c_13 hf
      refine lv_iconst (v := 0) hx hb d_T_again_35 (by decide) ?_
      cases hf
      exact s_zret hx hb hr (by decide) hlocks hP hK hD hS d_T_again_36
    · have hf := br_neg c_13 hf
      refine lv_iload_n hx hb d_T_again_16 rfl (lv_at hl 2 rfl) ?_
      refine lv_if_lt (tgt := 35) hx hb d_T_again_17 (by decide) (fun c_17 => ?_) (fun c_17 => ?_)
      · have hf := br_pos c_17 hf
        refine lv_iconst (v := 0) hx hb d_T_again_35 (by decide) ?_
        cases hf
        exact s_zret hx hb hr (by decide) hlocks hP hK hD hS d_T_again_36
      · have hf := br_neg c_17 hf
        refine lv_aload_n hx hb d_T_again_20 rfl (lv_at hl 0 rfl) ?_
        refine va_get (D := (dC, dI)) (ci := 0) (v := .ref g) (C := R_T) (T := T_T) (N := 9) hx hb hts w_7 hown hK hP 0 rfl rfl 0 (by decide) (hts _ w_8) (fun _ h9 => h9) rfl d_T_again_21 ?_
        refine lv_iload_n hx hb d_T_again_24 rfl (lv_at hl 1 rfl) ?_
        refine lv_i2l (v := (x1.toInt64)) hx hb d_T_again_25 rfl ?_
        refine lv_iload_n hx hb d_T_again_26 rfl (lv_at hl 2 rfl) ?_
        refine lv_i2l (v := (x2.toInt64)) hx hb d_T_again_27 rfl ?_
        refine lv_lmul hx hb d_T_again_28 ?_
        obtain ⟨r29, hc29, hf⟩ := bd1_some hf
        refine s_Vi (As := [.long ((x1.toInt64) * (x2.toInt64))]) (rest := []) (wr := [(x, .inr (0, [.ref g, .ref u, .ref hs, .ref t, .ref bw, .ref fw, .ref br, .ref fr, .int xp]))]) (ws' := wd_T_again x g ga u hs t bw fw br fr cB cI cJ xp gn gf) C.call (c_Row_hasRoomFor l dC dI cB cI cJ g ga 8000 gn gf ((x1.toInt64) * (x2.toInt64)) hc29) (cwV 1 hts (gd_V w_14 w_15 w_16 w_12 w_17) rfl rfl rfl ⟨rfl, hd_Row_hasRoomFor⟩ ⟨Nat.le_of_ble_eq_true rfl, Nat.le_of_ble_eq_true rfl⟩) rfl hl.1 rfl (Nat.le_of_ble_eq_true rfl) d_T_again_29 ⟨Nat.le_of_ble_eq_true rfl, Nat.le_of_ble_eq_true rfl⟩ hZ hK hP hD hS hA 1 1 rfl rfl [1, 2] [0] [0, 1, 2] rfl rfl rfl rfl (by decide) rfl rfl (fun H locs hP hD hS => ?_)
        refine lv_if_ne (tgt := 37) hx hb d_T_again_32 (by decide) (fun c_32 => ?_) (fun c_32 => ?_)
        · have hf := br_neg c_32 hf
          refine lv_iconst (v := 0) hx hb d_T_again_37 (by decide) ?_
          refine lv_istore_n (lv' := [(3, .int (0 : Int32)), (0, .ref x), (1, .int x1), (2, .int x2)]) hx hb d_T_again_38 rfl hl (by decide) rfl (fun ls hl => ?_)
          exact k_T_again_39 C hK hA x1 x2 xp  N (0 : Int32) gn gf hf _ _ hP hD hS _ (lv_sub hl [1, 2, 3, 0] rfl)
        · have hf := br_pos c_32 hf
          refine lv_iconst (v := 0) hx hb d_T_again_35 (by decide) ?_
          cases hf
          exact s_zret hx hb hr (by decide) hlocks hP hK hD hS d_T_again_36
end
noncomputable abbrev f_T_again (N : Nat) (x1 : Int32) (x2 : Int32) (gn : Int32) (gf : Nat → Int32) : Option (Int32 × Int32 × (Nat → Int32)) := j_T_again_0 N x1 x2 gn gf
set_option maxRecDepth 100000 in
theorem c_T_again {N : Nat} (l : Launch) (dC : Nat → ClassId) (dI : Nat → Nat → Nat) (cB cI cJ : ClassId) (x g ga u hs t bw fw br fr : Nat) (xp : Int32) (gn : Int32) (gf : Nat → Int32) (x1 : Int32) (x2 : Int32) {r_z : Int32} {gn_z : Int32} {gf_z : Nat → Int32} (hf : f_T_again N x1 x2 gn gf = some (r_z, gn_z, gf_z)) : MetI l y_T_again ws_T_again rm_T_again (dC, dI) vwCl [(cB, .byte), (cI, .int), (cJ, .long)] [.ref x, .int x1, .int x2] (wd_T_again x g ga u hs t bw fw br fr cB cI cJ xp gn gf) r_z (wd_T_again x g ga u hs t bw fw br fr cB cI cJ xp gn_z gf_z) 0 0 :=
  s_ofi (bytes := cd_T_again) (maxL := 4) (ret := (some .boolean)) (by decide) rfl (Nat.le_of_ble_eq_true rfl) (fun p e s m below meth c A ls C hK hA hP hD hS hl => k_T_again_0 C hK hA x1 x2 xp gn gf hf hP hD hS (lv_sub hl [0, 1, 2] rfl))

abbrev wd_T_keepDraft (x u ua t ta g hs bw fw br fr : Nat) (cB cI cJ : ClassId) (xp : Int32) (un : Int32) (uf : Nat → Int32) (tn : Int32) (tf : Nat → Int32) : va_W := [(x, .inr (0, [.ref g, .ref u, .ref hs, .ref t, .ref bw, .ref fw, .ref br, .ref fr, .int xp])), (u, .inr (1, [.ref ua, .int un])), (ua, .inl (cB, 8000, .inl uf)), (t, .inr (1, [.ref ta, .int tn])), (ta, .inl (cB, 8000, .inl tf))]
abbrev rm_T_keepDraft : Room := { frames := 3, cells := 0, slots := 0, locals := 63 }
section
variable {p : Program} {l : Launch} {e : Env} {s : State} {m : MethodId} {args : Array Value} {below : List Frame} {meth : Method} {c : Code} {dC : Nat → ClassId} {dI : Nat → Nat → Nat} {A : Nat → Prop} {cB cI cJ : ClassId} {H : Heap} {locs : List Loc} {ls : Array Slot} {N : Nat} {x u ua t ta g hs bw fw br fr : Nat}
noncomputable def j_T_keepDraft_0 (un : Int32) (uf : Nat → Int32) (tn : Int32) (tf : Nat → Int32)  : Option (Int32 × Int32 × (Nat → Int32)) :=
  bd2 (f_Row_become 8000 8000 un uf tn tf) (fun un_8 uf_8 => bd1 (f_Row_count un_8) (fun r15 => (some (r15, un_8, uf_8) : Option (Int32 × Int32 × (Nat → Int32)))))
set_option maxHeartbeats 4000000 in
set_option maxRecDepth 100000 in
theorem k_T_keepDraft_0 {r_z : Int32} {un_z : Int32} {uf_z : Nat → Int32} (C : Fx p s m args meth c cd_T_keepDraft 1 R_T lw_g (some .int)) (hK : va_K (dC, dI) vwCl [(cB, .byte), (cI, .int), (cJ, .long)] s) (hA : ∀ q, s.heap.size ≤ q → A q) (xp : Int32) (un : Int32) (uf : Nat → Int32) (tn : Int32) (tf : Nat → Int32)  (hf : j_T_keepDraft_0 un uf tn tf  = some (r_z, un_z, uf_z)) (hP : va_P (dC, dI) vwCl (wd_T_keepDraft x u ua t ta g hs bw fw br fr cB cI cJ xp un uf tn tf) H) (hD : va_D A (wd_T_keepDraft x u ua t ta g hs bw fw br fr cB cI cJ xp un uf tn tf)) (hS : va_S A s.heap H locs) (hl : lv_has ls 1 [(0, .ref x)]) : W p l e rm_T_keepDraft s m args below meth c H locs 0 0 (MQ below (sQi (dC, dI) vwCl [(cB, .byte), (cI, .int), (cJ, .long)] A r_z (wd_T_keepDraft x u ua t ta g hs bw fw br fr cB cI cJ xp un_z uf_z tn tf)) args s 0 0 A) (F0 m 0 ls []) := by
  obtain ⟨hx, hb, hml, hown, hts, hr, hlocks, hZ⟩ := id C
  unfold j_T_keepDraft_0 at hf
  refine lv_aload_n hx hb d_T_keepDraft_0 rfl (lv_at hl 0 rfl) ?_
  refine va_get (D := (dC, dI)) (ci := 0) (v := .ref u) (C := R_T) (T := T_T) (N := 9) hx hb hts w_7 hown hK hP 0 rfl rfl 1 (by decide) (hts _ w_34) (fun _ h9 => h9) rfl d_T_keepDraft_1 ?_
  refine lv_aload_n hx hb d_T_keepDraft_4 rfl (lv_at hl 0 rfl) ?_
  refine va_get (D := (dC, dI)) (ci := 0) (v := .ref t) (C := R_T) (T := T_T) (N := 9) hx hb hts w_7 hown hK hP 0 rfl rfl 3 (by decide) (hts _ w_35) (fun _ h9 => h9) rfl d_T_keepDraft_5 ?_
  obtain ⟨un_8, uf_8, hc8, hf⟩ := bd2_some hf
  refine s_Vv (As := [.ref t]) (rest := []) (wr := [(x, .inr (0, [.ref g, .ref u, .ref hs, .ref t, .ref bw, .ref fw, .ref br, .ref fr, .int xp]))]) (ws' := wd_T_keepDraft x u ua t ta g hs bw fw br fr cB cI cJ xp un_8 uf_8 tn tf) C.call (c_Row_become l dC dI cB cI cJ u ua t ta 8000 8000 un uf tn tf  hc8) (cwV 1 hts (gd_V w_36 w_37 w_38 w_12 w_39) rfl rfl rfl ⟨rfl, hd_Row_become⟩ ⟨Nat.le_of_ble_eq_true rfl, Nat.le_of_ble_eq_true rfl⟩) rfl hl.1 rfl (Nat.le_of_ble_eq_true rfl) d_T_keepDraft_8 ⟨Nat.le_of_ble_eq_true rfl, Nat.le_of_ble_eq_true rfl⟩ hZ hK hP hD hS hA 1 1 rfl rfl [1, 2, 3, 4] [0] [0, 1, 2, 3, 4] rfl rfl rfl rfl (by decide) rfl rfl (fun H locs hP hD hS => ?_)
  refine lv_aload_n hx hb d_T_keepDraft_11 rfl (lv_at hl 0 rfl) ?_
  refine va_get (D := (dC, dI)) (ci := 0) (v := .ref u) (C := R_T) (T := T_T) (N := 9) hx hb hts w_7 hown hK hP 0 rfl rfl 1 (by decide) (hts _ w_34) (fun _ h9 => h9) rfl d_T_keepDraft_12 ?_
  obtain ⟨r15, hc15, hf⟩ := bd1_some hf
  refine s_Vi (As := []) (rest := []) (wr := [(x, .inr (0, [.ref g, .ref u, .ref hs, .ref t, .ref bw, .ref fw, .ref br, .ref fr, .int xp])), (ua, .inl (cB, 8000, .inl uf_8)), (t, .inr (1, [.ref ta, .int tn])), (ta, .inl (cB, 8000, .inl tf))]) (ws' := wd_T_keepDraft x u ua t ta g hs bw fw br fr cB cI cJ xp un_8 uf_8 tn tf) C.call (c_Row_count l dC dI cB cI cJ u ua  un_8  hc15) (cwV 0 hts (gd_V w_9 w_10 w_11 w_12 w_13) rfl rfl rfl ⟨rfl, hd_Row_count⟩ ⟨Nat.le_of_ble_eq_true rfl, Nat.le_of_ble_eq_true rfl⟩) rfl hl.1 rfl (Nat.le_of_ble_eq_true rfl) d_T_keepDraft_15 ⟨Nat.le_of_ble_eq_true rfl, Nat.le_of_ble_eq_true rfl⟩ hZ hK hP hD hS hA 1 1 rfl rfl [1] [0, 2, 3, 4] [0, 4, 1, 2, 3] rfl rfl rfl rfl (by decide) rfl rfl (fun H locs hP hD hS => ?_)
  cases hf
  exact s_iret hx hb hr hlocks hP hK hD hS d_T_keepDraft_18
end
noncomputable abbrev f_T_keepDraft (un : Int32) (uf : Nat → Int32) (tn : Int32) (tf : Nat → Int32) : Option (Int32 × Int32 × (Nat → Int32)) := j_T_keepDraft_0 un uf tn tf
set_option maxRecDepth 100000 in
theorem c_T_keepDraft (l : Launch) (dC : Nat → ClassId) (dI : Nat → Nat → Nat) (cB cI cJ : ClassId) (x u ua t ta g hs bw fw br fr : Nat) (xp : Int32) (un : Int32) (uf : Nat → Int32) (tn : Int32) (tf : Nat → Int32)  {r_z : Int32} {un_z : Int32} {uf_z : Nat → Int32} (hf : f_T_keepDraft un uf tn tf = some (r_z, un_z, uf_z)) : MetI l y_T_keepDraft ws_T_keepDraft rm_T_keepDraft (dC, dI) vwCl [(cB, .byte), (cI, .int), (cJ, .long)] [.ref x] (wd_T_keepDraft x u ua t ta g hs bw fw br fr cB cI cJ xp un uf tn tf) r_z (wd_T_keepDraft x u ua t ta g hs bw fw br fr cB cI cJ xp un_z uf_z tn tf) 0 0 :=
  s_ofi (bytes := cd_T_keepDraft) (maxL := 1) (ret := (some .int)) (by decide) rfl (Nat.le_of_ble_eq_true rfl) (fun p e s m below meth c A ls C hK hA hP hD hS hl => k_T_keepDraft_0 C hK hA xp un uf tn tf hf hP hD hS (lv_sub hl [0] rfl))

abbrev wd_T_block (x g ga u ua hs hsa t ta bw mt d da la ea fw br fr : Nat) (cB cI cJ : ClassId) (xp : Int32) (gn : Int32) (gf : Nat → Int32) (un : Int32) (uf : Nat → Int32) (hsn : Int32) (hsf : Nat → Int32) (tn : Int32) (tf : Nat → Int32) (mc : Int32) (ms : Int32) (ml : Int32) (dn : Int32) (df : Nat → Int32) (laf : Nat → Int32) (eaf : Nat → Int32) : va_W := [(x, .inr (0, [.ref g, .ref u, .ref hs, .ref t, .ref bw, .ref fw, .ref br, .ref fr, .int xp])), (g, .inr (1, [.ref ga, .int gn])), (ga, .inl (cB, 8000, .inl gf)), (u, .inr (1, [.ref ua, .int un])), (ua, .inl (cB, 8000, .inl uf)), (hs, .inr (1, [.ref hsa, .int hsn])), (hsa, .inl (cB, 8000, .inl hsf)), (t, .inr (1, [.ref ta, .int tn])), (ta, .inl (cB, 8000, .inl tf)), (bw, .inr (2, [.ref hs, .ref mt, .ref d])), (mt, .inr (3, [.ref d, .ref la, .ref ea, .int mc, .int ms, .int ml])), (d, .inr (1, [.ref da, .int dn])), (da, .inl (cB, 16000, .inl df)), (la, .inl (cI, 4096, .inl laf)), (ea, .inl (cI, 16000, .inl eaf))]
abbrev rm_T_block : Room := { frames := 5, cells := 0, slots := 0, locals := 121 }
section
variable {p : Program} {l : Launch} {e : Env} {s : State} {m : MethodId} {args : Array Value} {below : List Frame} {meth : Method} {c : Code} {dC : Nat → ClassId} {dI : Nat → Nat → Nat} {A : Nat → Prop} {cB cI cJ : ClassId} {H : Heap} {locs : List Loc} {ls : Array Slot} {N : Nat} {x g ga u ua hs hsa t ta bw mt d da la ea fw br fr : Nat}
noncomputable def j_T_block_0 (N : Nat) (x1 : Int32) (gn : Int32) (gf : Nat → Int32) (un : Int32) (uf : Nat → Int32) (hsn : Int32) (hsf : Nat → Int32) (tn : Int32) (tf : Nat → Int32) (mc : Int32) (ms : Int32) (ml : Int32) (dn : Int32) (df : Nat → Int32) (laf : Nat → Int32) (eaf : Nat → Int32)  : Option (Int32 × Int32 × (Nat → Int32) × Int32 × (Nat → Int32) × Int32 × Int32 × Int32 × Int32 × (Nat → Int32) × (Nat → Int32) × (Nat → Int32)) :=
  bd1 (f_T_isWay x1) (fun r1 => (if r1 = 0 then (some ((-1 : Int32), un, uf, tn, tf, mc, ms, ml, dn, df, laf, eaf) : Option (Int32 × Int32 × (Nat → Int32) × Int32 × (Nat → Int32) × Int32 × Int32 × Int32 × Int32 × (Nat → Int32) × (Nat → Int32) × (Nat → Int32))) else bd1 (f_Row_cutTo (0 : Int32) tn) (fun tn_14 => bd4 (f_BW_startOver N dn df laf hsn hsf) (fun mc_21 dn_21 df_21 laf_21 => bd1 (f_Row_count gn) (fun r37 => bd10 (f_BW_pack N (0 : Int32) r37 x1 mc_21 ms ml dn_21 df_21 laf_21 eaf gn gf tn_14 tf) (fun r45 mc_45 ms_45 ml_45 dn_45 df_45 laf_45 eaf_45 tn_45 tf_45 => (if r45 = 0 then (some ((-1 : Int32), un, uf, tn_45, tf_45, mc_45, ms_45, ml_45, dn_45, df_45, laf_45, eaf_45) : Option (Int32 × Int32 × (Nat → Int32) × Int32 × (Nat → Int32) × Int32 × Int32 × Int32 × Int32 × (Nat → Int32) × (Nat → Int32) × (Nat → Int32))) else bd3 (f_T_keepDraft un uf tn_45 tf_45) (fun r54 un_54 uf_54 => (some (r54, un_54, uf_54, tn_45, tf_45, mc_45, ms_45, ml_45, dn_45, df_45, laf_45, eaf_45) : Option (Int32 × Int32 × (Nat → Int32) × Int32 × (Nat → Int32) × Int32 × Int32 × Int32 × Int32 × (Nat → Int32) × (Nat → Int32) × (Nat → Int32)))))))))))
set_option maxHeartbeats 4000000 in
set_option maxRecDepth 100000 in
theorem k_T_block_0 {r_z : Int32} {un_z : Int32} {uf_z : Nat → Int32} {tn_z : Int32} {tf_z : Nat → Int32} {mc_z : Int32} {ms_z : Int32} {ml_z : Int32} {dn_z : Int32} {df_z : Nat → Int32} {laf_z : Nat → Int32} {eaf_z : Nat → Int32} (C : Fx p s m args meth c cd_T_block 3 R_T lw_g (some .int)) (hK : va_K (dC, dI) vwCl [(cB, .byte), (cI, .int), (cJ, .long)] s) (hA : ∀ q, s.heap.size ≤ q → A q) (x1 : Int32) (xp : Int32) (gn : Int32) (gf : Nat → Int32) (un : Int32) (uf : Nat → Int32) (hsn : Int32) (hsf : Nat → Int32) (tn : Int32) (tf : Nat → Int32) (mc : Int32) (ms : Int32) (ml : Int32) (dn : Int32) (df : Nat → Int32) (laf : Nat → Int32) (eaf : Nat → Int32)  (hf : j_T_block_0 N x1 gn gf un uf hsn hsf tn tf mc ms ml dn df laf eaf  = some (r_z, un_z, uf_z, tn_z, tf_z, mc_z, ms_z, ml_z, dn_z, df_z, laf_z, eaf_z)) (hP : va_P (dC, dI) vwCl (wd_T_block x g ga u ua hs hsa t ta bw mt d da la ea fw br fr cB cI cJ xp gn gf un uf hsn hsf tn tf mc ms ml dn df laf eaf) H) (hD : va_D A (wd_T_block x g ga u ua hs hsa t ta bw mt d da la ea fw br fr cB cI cJ xp gn gf un uf hsn hsf tn tf mc ms ml dn df laf eaf)) (hS : va_S A s.heap H locs) (hl : lv_has ls 3 [(0, .ref x), (1, .int x1)]) : W p l e rm_T_block s m args below meth c H locs 0 0 (MQ below (sQi (dC, dI) vwCl [(cB, .byte), (cI, .int), (cJ, .long)] A r_z (wd_T_block x g ga u ua hs hsa t ta bw mt d da la ea fw br fr cB cI cJ xp gn gf un_z uf_z hsn hsf tn_z tf_z mc_z ms_z ml_z dn_z df_z laf_z eaf_z)) args s 0 0 A) (F0 m 0 ls []) := by
  obtain ⟨hx, hb, hml, hown, hts, hr, hlocks, hZ⟩ := id C
  unfold j_T_block_0 at hf
  refine lv_iload_n hx hb d_T_block_0 rfl (lv_at hl 1 rfl) ?_
  obtain ⟨r1, hc1, hf⟩ := bd1_some hf
  refine s_Si (As := [.int x1]) (rest := []) (wr := [(x, .inr (0, [.ref g, .ref u, .ref hs, .ref t, .ref bw, .ref fw, .ref br, .ref fr, .int xp])), (g, .inr (1, [.ref ga, .int gn])), (ga, .inl (cB, 8000, .inl gf)), (u, .inr (1, [.ref ua, .int un])), (ua, .inl (cB, 8000, .inl uf)), (hs, .inr (1, [.ref hsa, .int hsn])), (hsa, .inl (cB, 8000, .inl hsf)), (t, .inr (1, [.ref ta, .int tn])), (ta, .inl (cB, 8000, .inl tf)), (bw, .inr (2, [.ref hs, .ref mt, .ref d])), (mt, .inr (3, [.ref d, .ref la, .ref ea, .int mc, .int ms, .int ml])), (d, .inr (1, [.ref da, .int dn])), (da, .inl (cB, 16000, .inl df)), (la, .inl (cI, 4096, .inl laf)), (ea, .inl (cI, 16000, .inl eaf))]) (ws' := wd_T_block x g ga u ua hs hsa t ta bw mt d da la ea fw br fr cB cI cJ xp gn gf un uf hsn hsf tn tf mc ms ml dn df laf eaf) C.call (c_T_isWay l dC dI cB cI cJ    x1 hc1) (va_cwS 1 hts (gd_S w_127 w_128 w_129 w_130) rfl rfl rfl hd_T_isWay ⟨Nat.le_of_ble_eq_true rfl, Nat.le_of_ble_eq_true rfl⟩) rfl hl.1 rfl (Nat.le_of_ble_eq_true rfl) d_T_block_1 ⟨Nat.le_of_ble_eq_true rfl, Nat.le_of_ble_eq_true rfl⟩ hZ hK hP hD hS hA [] [0, 1, 2, 3, 4, 5, 6, 7, 8, 9, 10, 11, 12, 13, 14] [0, 1, 2, 3, 4, 5, 6, 7, 8, 9, 10, 11, 12, 13, 14] rfl rfl rfl rfl (by decide) rfl rfl (fun H locs hP hD hS => ?_)
  refine lv_if_ne (tgt := 9) hx hb d_T_block_4 (by decide) (fun c_4 => ?_) (fun c_4 => ?_)
  · have hf := br_neg c_4 hf
    refine lv_aload_n hx hb d_T_block_9 rfl (lv_at hl 0 rfl) ?_
    refine va_get (D := (dC, dI)) (ci := 0) (v := .ref t) (C := R_T) (T := T_T) (N := 9) hx hb hts w_7 hown hK hP 0 rfl rfl 3 (by decide) (hts _ w_35) (fun _ h9 => h9) rfl d_T_block_10 ?_
    refine lv_iconst (v := 0) hx hb d_T_block_13 (by decide) ?_
    obtain ⟨tn_14, hc14, hf⟩ := bd1_some hf
    refine s_Vv (As := [.int (0 : Int32)]) (rest := []) (wr := [(x, .inr (0, [.ref g, .ref u, .ref hs, .ref t, .ref bw, .ref fw, .ref br, .ref fr, .int xp])), (g, .inr (1, [.ref ga, .int gn])), (ga, .inl (cB, 8000, .inl gf)), (u, .inr (1, [.ref ua, .int un])), (ua, .inl (cB, 8000, .inl uf)), (hs, .inr (1, [.ref hsa, .int hsn])), (hsa, .inl (cB, 8000, .inl hsf)), (ta, .inl (cB, 8000, .inl tf)), (bw, .inr (2, [.ref hs, .ref mt, .ref d])), (mt, .inr (3, [.ref d, .ref la, .ref ea, .int mc, .int ms, .int ml])), (d, .inr (1, [.ref da, .int dn])), (da, .inl (cB, 16000, .inl df)), (la, .inl (cI, 4096, .inl laf)), (ea, .inl (cI, 16000, .inl eaf))]) (ws' := wd_T_block x g ga u ua hs hsa t ta bw mt d da la ea fw br fr cB cI cJ xp gn gf un uf hsn hsf tn_14 tf mc ms ml dn df laf eaf) C.call (c_Row_cutTo l dC dI cB cI cJ t ta  tn (0 : Int32) hc14) (cwV 1 hts (gd_V w_131 w_30 w_31 w_12 w_32) rfl rfl rfl ⟨rfl, hd_Row_cutTo⟩ ⟨Nat.le_of_ble_eq_true rfl, Nat.le_of_ble_eq_true rfl⟩) rfl hl.1 rfl (Nat.le_of_ble_eq_true rfl) d_T_block_14 ⟨Nat.le_of_ble_eq_true rfl, Nat.le_of_ble_eq_true rfl⟩ hZ hK hP hD hS hA 1 7 rfl rfl [7] [0, 1, 2, 3, 4, 5, 6, 8, 9, 10, 11, 12, 13, 14] [0, 1, 2, 3, 4, 5, 6, 14, 7, 8, 9, 10, 11, 12, 13] rfl rfl rfl rfl (by decide) rfl rfl (fun H locs hP hD hS => ?_)
    refine lv_aload_n hx hb d_T_block_17 rfl (lv_at hl 0 rfl) ?_
    refine va_get (D := (dC, dI)) (ci := 0) (v := .ref bw) (C := R_T) (T := T_T) (N := 9) hx hb hts w_7 hown hK hP 0 rfl rfl 4 (by decide) (hts _ w_132) (fun _ h9 => h9) rfl d_T_block_18 ?_
    obtain ⟨mc_21, dn_21, df_21, laf_21, hc21, hf⟩ := bd4_some hf
    refine s_Vv (As := []) (rest := []) (wr := [(x, .inr (0, [.ref g, .ref u, .ref hs, .ref t, .ref bw, .ref fw, .ref br, .ref fr, .int xp])), (g, .inr (1, [.ref ga, .int gn])), (ga, .inl (cB, 8000, .inl gf)), (u, .inr (1, [.ref ua, .int un])), (ua, .inl (cB, 8000, .inl uf)), (t, .inr (1, [.ref ta, .int tn_14])), (ta, .inl (cB, 8000, .inl tf)), (ea, .inl (cI, 16000, .inl eaf))]) (ws' := wd_T_block x g ga u ua hs hsa t ta bw mt d da la ea fw br fr cB cI cJ xp gn gf un uf hsn hsf tn_14 tf mc_21 ms ml dn_21 df_21 laf_21 eaf) C.call (c_BW_startOver l dC dI cB cI cJ bw mt d da la hs hsa ea  mc ms ml dn df laf hsn hsf  hc21) (cwV 0 hts (gd_V w_133 w_134 w_135 w_46 w_136) rfl rfl rfl ⟨rfl, hd_BW_startOver⟩ ⟨Nat.le_of_ble_eq_true rfl, Nat.le_of_ble_eq_true rfl⟩) rfl hl.1 rfl (Nat.le_of_ble_eq_true rfl) d_T_block_21 ⟨Nat.le_of_ble_eq_true rfl, Nat.le_of_ble_eq_true rfl⟩ hZ hK hP hD hS hA 2 9 rfl rfl [9, 10, 11, 12, 13, 5, 6] [0, 1, 2, 3, 4, 7, 8, 14] [0, 1, 2, 3, 4, 13, 14, 5, 6, 8, 9, 10, 11, 12, 7] rfl rfl rfl rfl (by decide) rfl rfl (fun H locs hP hD hS => ?_)
    refine lv_aload_n hx hb d_T_block_24 rfl (lv_at hl 0 rfl) ?_
    refine va_get (D := (dC, dI)) (ci := 0) (v := .ref bw) (C := R_T) (T := T_T) (N := 9) hx hb hts w_7 hown hK hP 0 rfl rfl 4 (by decide) (hts _ w_132) (fun _ h9 => h9) rfl d_T_block_25 ?_
    refine lv_aload_n hx hb d_T_block_28 rfl (lv_at hl 0 rfl) ?_
    refine va_get (D := (dC, dI)) (ci := 0) (v := .ref g) (C := R_T) (T := T_T) (N := 9) hx hb hts w_7 hown hK hP 0 rfl rfl 0 (by decide) (hts _ w_8) (fun _ h9 => h9) rfl d_T_block_29 ?_
    refine lv_iconst (v := 0) hx hb d_T_block_32 (by decide) ?_
    refine lv_aload_n hx hb d_T_block_33 rfl (lv_at hl 0 rfl) ?_
    refine va_get (D := (dC, dI)) (ci := 0) (v := .ref g) (C := R_T) (T := T_T) (N := 9) hx hb hts w_7 hown hK hP 0 rfl rfl 0 (by decide) (hts _ w_8) (fun _ h9 => h9) rfl d_T_block_34 ?_
    obtain ⟨r37, hc37, hf⟩ := bd1_some hf
    refine s_Vi (As := []) (rest := [.int (0 : Int32), .ref g, .ref bw]) (wr := [(x, .inr (0, [.ref g, .ref u, .ref hs, .ref t, .ref bw, .ref fw, .ref br, .ref fr, .int xp])), (ga, .inl (cB, 8000, .inl gf)), (u, .inr (1, [.ref ua, .int un])), (ua, .inl (cB, 8000, .inl uf)), (hs, .inr (1, [.ref hsa, .int hsn])), (hsa, .inl (cB, 8000, .inl hsf)), (t, .inr (1, [.ref ta, .int tn_14])), (ta, .inl (cB, 8000, .inl tf)), (bw, .inr (2, [.ref hs, .ref mt, .ref d])), (mt, .inr (3, [.ref d, .ref la, .ref ea, .int mc_21, .int ms, .int ml])), (d, .inr (1, [.ref da, .int dn_21])), (da, .inl (cB, 16000, .inl df_21)), (la, .inl (cI, 4096, .inl laf_21)), (ea, .inl (cI, 16000, .inl eaf))]) (ws' := wd_T_block x g ga u ua hs hsa t ta bw mt d da la ea fw br fr cB cI cJ xp gn gf un uf hsn hsf tn_14 tf mc_21 ms ml dn_21 df_21 laf_21 eaf) C.call (c_Row_count l dC dI cB cI cJ g ga  gn  hc37) (cwV 0 hts (gd_V w_9 w_10 w_11 w_12 w_13) rfl rfl rfl ⟨rfl, hd_Row_count⟩ ⟨Nat.le_of_ble_eq_true rfl, Nat.le_of_ble_eq_true rfl⟩) rfl hl.1 rfl (Nat.le_of_ble_eq_true rfl) d_T_block_37 ⟨Nat.le_of_ble_eq_true rfl, Nat.le_of_ble_eq_true rfl⟩ hZ hK hP hD hS hA 1 1 rfl rfl [1] [0, 2, 3, 4, 5, 6, 7, 8, 9, 10, 11, 12, 13, 14] [0, 14, 1, 2, 3, 4, 5, 6, 7, 8, 9, 10, 11, 12, 13] rfl rfl rfl rfl (by decide) rfl rfl (fun H locs hP hD hS => ?_)
    refine lv_iload_n hx hb d_T_block_40 rfl (lv_at hl 1 rfl) ?_
    refine lv_aload_n hx hb d_T_block_41 rfl (lv_at hl 0 rfl) ?_
    refine va_get (D := (dC, dI)) (ci := 0) (v := .ref t) (C := R_T) (T := T_T) (N := 9) hx hb hts w_7 hown hK hP 0 rfl rfl 3 (by decide) (hts _ w_35) (fun _ h9 => h9) rfl d_T_block_42 ?_
    obtain ⟨r45, mc_45, ms_45, ml_45, dn_45, df_45, laf_45, eaf_45, tn_45, tf_45, hc45, hf⟩ := bd10_some hf
    refine s_Vi (As := [.ref g, .int (0 : Int32), .int r37, .int x1, .ref t]) (rest := []) (wr := [(x, .inr (0, [.ref g, .ref u, .ref hs, .ref t, .ref bw, .ref fw, .ref br, .ref fr, .int xp])), (u, .inr (1, [.ref ua, .int un])), (ua, .inl (cB, 8000, .inl uf)), (hs, .inr (1, [.ref hsa, .int hsn])), (hsa, .inl (cB, 8000, .inl hsf))]) (ws' := wd_T_block x g ga u ua hs hsa t ta bw mt d da la ea fw br fr cB cI cJ xp gn gf un uf hsn hsf tn_45 tf_45 mc_45 ms_45 ml_45 dn_45 df_45 laf_45 eaf_45) C.call (c_BW_pack l dC dI cB cI cJ bw mt d da la ea g ga t ta hs  mc_21 ms ml dn_21 df_21 laf_21 eaf gn gf tn_14 tf (0 : Int32) r37 x1 hc45) (cwV 5 hts (gd_V w_137 w_138 w_139 w_46 w_140) rfl rfl rfl ⟨rfl, hd_BW_pack⟩ ⟨Nat.le_of_ble_eq_true rfl, Nat.le_of_ble_eq_true rfl⟩) rfl hl.1 rfl (Nat.le_of_ble_eq_true rfl) d_T_block_45 ⟨Nat.le_of_ble_eq_true rfl, Nat.le_of_ble_eq_true rfl⟩ hZ hK hP hD hS hA 2 9 rfl rfl [9, 10, 11, 12, 13, 14, 1, 2, 7, 8] [0, 3, 4, 5, 6] [0, 11, 12, 1, 2, 3, 4, 13, 14, 5, 6, 7, 8, 9, 10] rfl rfl rfl rfl (by decide) rfl rfl (fun H locs hP hD hS => ?_)
    refine lv_istore_n (lv' := [(2, .int r45), (0, .ref x), (1, .int x1)]) hx hb d_T_block_48 rfl hl (by decide) rfl (fun ls hl => ?_)
    refine lv_iload_n hx hb d_T_block_49 rfl (lv_at hl 0 rfl) ?_
    refine lv_if_eq (tgt := 60) hx hb d_T_block_50 (by decide) (fun c_50 => ?_) (fun c_50 => ?_)
    · have hf := br_pos c_50 hf
      refine lv_iconst (v := -1) hx hb d_T_block_60 (by decide) ?_
      cases hf
      exact s_iret hx hb hr hlocks hP hK hD hS d_T_block_61
    · have hf := br_neg c_50 hf
      refine lv_aload_n hx hb d_T_block_53 rfl (lv_at hl 1 rfl) ?_
      obtain ⟨r54, un_54, uf_54, hc54, hf⟩ := bd3_some hf
      refine s_Vi (As := []) (rest := []) (wr := [(g, .inr (1, [.ref ga, .int gn])), (ga, .inl (cB, 8000, .inl gf)), (hs, .inr (1, [.ref hsa, .int hsn])), (hsa, .inl (cB, 8000, .inl hsf)), (bw, .inr (2, [.ref hs, .ref mt, .ref d])), (mt, .inr (3, [.ref d, .ref la, .ref ea, .int mc_45, .int ms_45, .int ml_45])), (d, .inr (1, [.ref da, .int dn_45])), (da, .inl (cB, 16000, .inl df_45)), (la, .inl (cI, 4096, .inl laf_45)), (ea, .inl (cI, 16000, .inl eaf_45))]) (ws' := wd_T_block x g ga u ua hs hsa t ta bw mt d da la ea fw br fr cB cI cJ xp gn gf un_54 uf_54 hsn hsf tn_45 tf_45 mc_45 ms_45 ml_45 dn_45 df_45 laf_45 eaf_45) C.call (c_T_keepDraft l dC dI cB cI cJ x u ua t ta g hs bw fw br fr  xp un uf tn_45 tf_45  hc54) (cwV 0 hts (gd_V w_141 w_142 w_143 w_129 w_144) rfl rfl rfl ⟨rfl, hd_T_keepDraft⟩ ⟨Nat.le_of_ble_eq_true rfl, Nat.le_of_ble_eq_true rfl⟩) rfl hl.1 rfl (Nat.le_of_ble_eq_true rfl) d_T_block_54 ⟨Nat.le_of_ble_eq_true rfl, Nat.le_of_ble_eq_true rfl⟩ hZ hK hP hD hS hA 0 0 rfl rfl [0, 3, 4, 7, 8] [1, 2, 5, 6, 9, 10, 11, 12, 13, 14] [10, 0, 1, 11, 12, 2, 3, 13, 14, 4, 5, 6, 7, 8, 9] rfl rfl rfl rfl (by decide) rfl rfl (fun H locs hP hD hS => ?_)
      refine lv_goto (tgt := 61) hx hb d_T_block_57 (by decide) ?_
      cases hf
      exact s_iret hx hb hr hlocks hP hK hD hS d_T_block_61
  · have hf := br_pos c_4 hf
    refine lv_iconst (v := -1) hx hb d_T_block_7 (by decide) ?_
    cases hf
    exact s_iret hx hb hr hlocks hP hK hD hS d_T_block_8
end
noncomputable abbrev f_T_block (N : Nat) (x1 : Int32) (gn : Int32) (gf : Nat → Int32) (un : Int32) (uf : Nat → Int32) (hsn : Int32) (hsf : Nat → Int32) (tn : Int32) (tf : Nat → Int32) (mc : Int32) (ms : Int32) (ml : Int32) (dn : Int32) (df : Nat → Int32) (laf : Nat → Int32) (eaf : Nat → Int32) : Option (Int32 × Int32 × (Nat → Int32) × Int32 × (Nat → Int32) × Int32 × Int32 × Int32 × Int32 × (Nat → Int32) × (Nat → Int32) × (Nat → Int32)) := j_T_block_0 N x1 gn gf un uf hsn hsf tn tf mc ms ml dn df laf eaf
set_option maxRecDepth 100000 in
theorem c_T_block {N : Nat} (l : Launch) (dC : Nat → ClassId) (dI : Nat → Nat → Nat) (cB cI cJ : ClassId) (x g ga u ua hs hsa t ta bw mt d da la ea fw br fr : Nat) (xp : Int32) (gn : Int32) (gf : Nat → Int32) (un : Int32) (uf : Nat → Int32) (hsn : Int32) (hsf : Nat → Int32) (tn : Int32) (tf : Nat → Int32) (mc : Int32) (ms : Int32) (ml : Int32) (dn : Int32) (df : Nat → Int32) (laf : Nat → Int32) (eaf : Nat → Int32) (x1 : Int32) {r_z : Int32} {un_z : Int32} {uf_z : Nat → Int32} {tn_z : Int32} {tf_z : Nat → Int32} {mc_z : Int32} {ms_z : Int32} {ml_z : Int32} {dn_z : Int32} {df_z : Nat → Int32} {laf_z : Nat → Int32} {eaf_z : Nat → Int32} (hf : f_T_block N x1 gn gf un uf hsn hsf tn tf mc ms ml dn df laf eaf = some (r_z, un_z, uf_z, tn_z, tf_z, mc_z, ms_z, ml_z, dn_z, df_z, laf_z, eaf_z)) : MetI l y_T_block ws_T_block rm_T_block (dC, dI) vwCl [(cB, .byte), (cI, .int), (cJ, .long)] [.ref x, .int x1] (wd_T_block x g ga u ua hs hsa t ta bw mt d da la ea fw br fr cB cI cJ xp gn gf un uf hsn hsf tn tf mc ms ml dn df laf eaf) r_z (wd_T_block x g ga u ua hs hsa t ta bw mt d da la ea fw br fr cB cI cJ xp gn gf un_z uf_z hsn hsf tn_z tf_z mc_z ms_z ml_z dn_z df_z laf_z eaf_z) 0 0 :=
  s_ofi (bytes := cd_T_block) (maxL := 3) (ret := (some .int)) (by decide) rfl (Nat.le_of_ble_eq_true rfl) (fun p e s m below meth c A ls C hK hA hP hD hS hl => k_T_block_0 C hK hA x1 xp gn gf un uf hsn hsf tn tf mc ms ml dn df laf eaf hf hP hD hS (lv_sub hl [0, 1] rfl))

abbrev wd_T_byteAt (x u ua g hs t bw fw br fr : Nat) (cB cI cJ : ClassId) (xp : Int32) (un : Int32) (uf : Nat → Int32) : va_W := [(x, .inr (0, [.ref g, .ref u, .ref hs, .ref t, .ref bw, .ref fw, .ref br, .ref fr, .int xp])), (u, .inr (1, [.ref ua, .int un])), (ua, .inl (cB, 8000, .inl uf))]
abbrev rm_T_byteAt : Room := { frames := 1, cells := 0, slots := 0, locals := 21 }
section
variable {p : Program} {l : Launch} {e : Env} {s : State} {m : MethodId} {args : Array Value} {below : List Frame} {meth : Method} {c : Code} {dC : Nat → ClassId} {dI : Nat → Nat → Nat} {A : Nat → Prop} {cB cI cJ : ClassId} {H : Heap} {locs : List Loc} {ls : Array Slot} {N : Nat} {x u ua g hs t bw fw br fr : Nat}
noncomputable def j_T_byteAt_0 (x1 : Int32) (un : Int32) (uf : Nat → Int32)  : Option (Int32) :=
  bd1 (f_Row_get 8000 x1 un uf) (fun r5 => (some r5 : Option (Int32)))
set_option maxHeartbeats 4000000 in
set_option maxRecDepth 100000 in
theorem k_T_byteAt_0 {r_z : Int32} (C : Fx p s m args meth c cd_T_byteAt 2 R_T lw_g (some .int)) (hK : va_K (dC, dI) vwCl [(cB, .byte), (cI, .int), (cJ, .long)] s) (hA : ∀ q, s.heap.size ≤ q → A q) (x1 : Int32) (xp : Int32) (un : Int32) (uf : Nat → Int32)  (hf : j_T_byteAt_0 x1 un uf  = some r_z) (hP : va_P (dC, dI) vwCl (wd_T_byteAt x u ua g hs t bw fw br fr cB cI cJ xp un uf) H) (hD : va_D A (wd_T_byteAt x u ua g hs t bw fw br fr cB cI cJ xp un uf)) (hS : va_S A s.heap H locs) (hl : lv_has ls 2 [(0, .ref x), (1, .int x1)]) : W p l e rm_T_byteAt s m args below meth c H locs 0 0 (MQ below (sQi (dC, dI) vwCl [(cB, .byte), (cI, .int), (cJ, .long)] A r_z (wd_T_byteAt x u ua g hs t bw fw br fr cB cI cJ xp un uf)) args s 0 0 A) (F0 m 0 ls []) := by
  obtain ⟨hx, hb, hml, hown, hts, hr, hlocks, hZ⟩ := id C
  unfold j_T_byteAt_0 at hf
  refine lv_aload_n hx hb d_T_byteAt_0 rfl (lv_at hl 0 rfl) ?_
  refine va_get (D := (dC, dI)) (ci := 0) (v := .ref u) (C := R_T) (T := T_T) (N := 9) hx hb hts w_7 hown hK hP 0 rfl rfl 1 (by decide) (hts _ w_34) (fun _ h9 => h9) rfl d_T_byteAt_1 ?_
  refine lv_iload_n hx hb d_T_byteAt_4 rfl (lv_at hl 1 rfl) ?_
  obtain ⟨r5, hc5, hf⟩ := bd1_some hf
  refine s_Vi (As := [.int x1]) (rest := []) (wr := [(x, .inr (0, [.ref g, .ref u, .ref hs, .ref t, .ref bw, .ref fw, .ref br, .ref fr, .int xp]))]) (ws' := wd_T_byteAt x u ua g hs t bw fw br fr cB cI cJ xp un uf) C.call (c_Row_get l dC dI cB cI cJ u ua 8000 un uf x1 hc5) (cwV 1 hts (gd_V w_145 w_80 w_81 w_12 w_82) rfl rfl rfl ⟨rfl, hd_Row_get⟩ ⟨Nat.le_of_ble_eq_true rfl, Nat.le_of_ble_eq_true rfl⟩) rfl hl.1 rfl (Nat.le_of_ble_eq_true rfl) d_T_byteAt_5 ⟨Nat.le_of_ble_eq_true rfl, Nat.le_of_ble_eq_true rfl⟩ hZ hK hP hD hS hA 1 1 rfl rfl [1, 2] [0] [0, 1, 2] rfl rfl rfl rfl (by decide) rfl rfl (fun H locs hP hD hS => ?_)
  cases hf
  exact s_iret hx hb hr hlocks hP hK hD hS d_T_byteAt_8
end
noncomputable abbrev f_T_byteAt (x1 : Int32) (un : Int32) (uf : Nat → Int32) : Option (Int32) := j_T_byteAt_0 x1 un uf
set_option maxRecDepth 100000 in
theorem c_T_byteAt (l : Launch) (dC : Nat → ClassId) (dI : Nat → Nat → Nat) (cB cI cJ : ClassId) (x u ua g hs t bw fw br fr : Nat) (xp : Int32) (un : Int32) (uf : Nat → Int32) (x1 : Int32) {r_z : Int32} (hf : f_T_byteAt x1 un uf = some r_z) : MetI l y_T_byteAt ws_T_byteAt rm_T_byteAt (dC, dI) vwCl [(cB, .byte), (cI, .int), (cJ, .long)] [.ref x, .int x1] (wd_T_byteAt x u ua g hs t bw fw br fr cB cI cJ xp un uf) r_z (wd_T_byteAt x u ua g hs t bw fw br fr cB cI cJ xp un uf) 0 0 :=
  s_ofi (bytes := cd_T_byteAt) (maxL := 2) (ret := (some .int)) (by decide) rfl (Nat.le_of_ble_eq_true rfl) (fun p e s m below meth c A ls C hK hA hP hD hS hl => k_T_byteAt_0 C hK hA x1 xp un uf hf hP hD hS (lv_sub hl [0, 1] rfl))

abbrev wd_T_clear (x g u hs t bw fw br fr ga : Nat) (cB cI cJ : ClassId) (xp : Int32) (gn : Int32) : va_W := [(x, .inr (0, [.ref g, .ref u, .ref hs, .ref t, .ref bw, .ref fw, .ref br, .ref fr, .int xp])), (g, .inr (1, [.ref ga, .int gn]))]
abbrev rm_T_clear : Room := { frames := 2, cells := 0, slots := 0, locals := 36 }
section
variable {p : Program} {l : Launch} {e : Env} {s : State} {m : MethodId} {args : Array Value} {below : List Frame} {meth : Method} {c : Code} {dC : Nat → ClassId} {dI : Nat → Nat → Nat} {A : Nat → Prop} {cB cI cJ : ClassId} {H : Heap} {locs : List Loc} {ls : Array Slot} {N : Nat} {x g u hs t bw fw br fr ga : Nat}
noncomputable def j_T_clear_0 (gn : Int32)  : Option (Int32) :=
  bd1 (f_Row_cutTo (0 : Int32) gn) (fun gn_5 => (some gn_5 : Option (Int32)))
set_option maxHeartbeats 4000000 in
set_option maxRecDepth 100000 in
theorem k_T_clear_0 {gn_z : Int32} (C : Fx p s m args meth c cd_T_clear 1 R_T lw_g none) (hK : va_K (dC, dI) vwCl [(cB, .byte), (cI, .int), (cJ, .long)] s) (hA : ∀ q, s.heap.size ≤ q → A q) (xp : Int32) (gn : Int32)  (hf : j_T_clear_0 gn  = some gn_z) (hP : va_P (dC, dI) vwCl (wd_T_clear x g u hs t bw fw br fr ga cB cI cJ xp gn) H) (hD : va_D A (wd_T_clear x g u hs t bw fw br fr ga cB cI cJ xp gn)) (hS : va_S A s.heap H locs) (hl : lv_has ls 1 [(0, .ref x)]) : W p l e rm_T_clear s m args below meth c H locs 0 0 (MQ below (sQv (dC, dI) vwCl [(cB, .byte), (cI, .int), (cJ, .long)] A (wd_T_clear x g u hs t bw fw br fr ga cB cI cJ xp gn_z)) args s 0 0 A) (F0 m 0 ls []) := by
  obtain ⟨hx, hb, hml, hown, hts, hr, hlocks, hZ⟩ := id C
  unfold j_T_clear_0 at hf
  refine lv_aload_n hx hb d_T_clear_0 rfl (lv_at hl 0 rfl) ?_
  refine va_get (D := (dC, dI)) (ci := 0) (v := .ref g) (C := R_T) (T := T_T) (N := 9) hx hb hts w_7 hown hK hP 0 rfl rfl 0 (by decide) (hts _ w_8) (fun _ h9 => h9) rfl d_T_clear_1 ?_
  refine lv_iconst (v := 0) hx hb d_T_clear_4 (by decide) ?_
  obtain ⟨gn_5, hc5, hf⟩ := bd1_some hf
  refine s_Vv (As := [.int (0 : Int32)]) (rest := []) (wr := [(x, .inr (0, [.ref g, .ref u, .ref hs, .ref t, .ref bw, .ref fw, .ref br, .ref fr, .int xp]))]) (ws' := wd_T_clear x g u hs t bw fw br fr ga cB cI cJ xp gn_5) C.call (c_Row_cutTo l dC dI cB cI cJ g ga  gn (0 : Int32) hc5) (cwV 1 hts (gd_V w_131 w_30 w_31 w_12 w_32) rfl rfl rfl ⟨rfl, hd_Row_cutTo⟩ ⟨Nat.le_of_ble_eq_true rfl, Nat.le_of_ble_eq_true rfl⟩) rfl hl.1 rfl (Nat.le_of_ble_eq_true rfl) d_T_clear_5 ⟨Nat.le_of_ble_eq_true rfl, Nat.le_of_ble_eq_true rfl⟩ hZ hK hP hD hS hA 1 1 rfl rfl [1] [0] [0, 1] rfl rfl rfl rfl (by decide) rfl rfl (fun H locs hP hD hS => ?_)
  cases hf
  exact s_vret hx hb hr hlocks hP hK hD hS d_T_clear_8
end
noncomputable abbrev f_T_clear (gn : Int32) : Option (Int32) := j_T_clear_0 gn
set_option maxRecDepth 100000 in
theorem c_T_clear (l : Launch) (dC : Nat → ClassId) (dI : Nat → Nat → Nat) (cB cI cJ : ClassId) (x g u hs t bw fw br fr ga : Nat) (xp : Int32) (gn : Int32)  {gn_z : Int32} (hf : f_T_clear gn = some gn_z) : MetV l y_T_clear ws_T_clear rm_T_clear (dC, dI) vwCl [(cB, .byte), (cI, .int), (cJ, .long)] [.ref x] (wd_T_clear x g u hs t bw fw br fr ga cB cI cJ xp gn)  (wd_T_clear x g u hs t bw fw br fr ga cB cI cJ xp gn_z) 0 0 :=
  s_ofv (bytes := cd_T_clear) (maxL := 1) (ret := none) (by decide) rfl (Nat.le_of_ble_eq_true rfl) (fun p e s m below meth c A ls C hK hA hP hD hS hl => k_T_clear_0 C hK hA xp gn hf hP hD hS (lv_sub hl [0] rfl))

abbrev wd_T_frame (x g ga u ua hs hsa t ta bw mt d da la ea fw pk pka br fr : Nat) (cB cI cJ : ClassId) (xp : Int32) (gn : Int32) (gf : Nat → Int32) (un : Int32) (uf : Nat → Int32) (hsn : Int32) (hsf : Nat → Int32) (tn : Int32) (tf : Nat → Int32) (mc : Int32) (ms : Int32) (ml : Int32) (dn : Int32) (df : Nat → Int32) (laf : Nat → Int32) (eaf : Nat → Int32) (pkn : Int32) (pkf : Nat → Int32) : va_W := [(x, .inr (0, [.ref g, .ref u, .ref hs, .ref t, .ref bw, .ref fw, .ref br, .ref fr, .int xp])), (g, .inr (1, [.ref ga, .int gn])), (ga, .inl (cB, 8000, .inl gf)), (u, .inr (1, [.ref ua, .int un])), (ua, .inl (cB, 8000, .inl uf)), (hs, .inr (1, [.ref hsa, .int hsn])), (hsa, .inl (cB, 8000, .inl hsf)), (t, .inr (1, [.ref ta, .int tn])), (ta, .inl (cB, 8000, .inl tf)), (bw, .inr (2, [.ref hs, .ref mt, .ref d])), (mt, .inr (3, [.ref d, .ref la, .ref ea, .int mc, .int ms, .int ml])), (d, .inr (1, [.ref da, .int dn])), (da, .inl (cB, 16000, .inl df)), (la, .inl (cI, 4096, .inl laf)), (ea, .inl (cI, 16000, .inl eaf)), (fw, .inr (4, [.ref g, .ref t, .ref bw, .ref pk])), (pk, .inr (1, [.ref pka, .int pkn])), (pka, .inl (cB, 8000, .inl pkf))]
abbrev rm_T_frame : Room := { frames := 7, cells := 0, slots := 0, locals := 177 }
section
variable {p : Program} {l : Launch} {e : Env} {s : State} {m : MethodId} {args : Array Value} {below : List Frame} {meth : Method} {c : Code} {dC : Nat → ClassId} {dI : Nat → Nat → Nat} {A : Nat → Prop} {cB cI cJ : ClassId} {H : Heap} {locs : List Loc} {ls : Array Slot} {N : Nat} {x g ga u ua hs hsa t ta bw mt d da la ea fw pk pka br fr : Nat}
noncomputable def j_T_frame_0 (N : Nat) (x1 : Int32) (x2 : Int32) (x3 : Int32) (x4 : Int32) (x5 : Int32) (gn : Int32) (gf : Nat → Int32) (un : Int32) (uf : Nat → Int32) (hsn : Int32) (hsf : Nat → Int32) (tn : Int32) (tf : Nat → Int32) (mc : Int32) (ms : Int32) (ml : Int32) (dn : Int32) (df : Nat → Int32) (laf : Nat → Int32) (eaf : Nat → Int32) (pkn : Int32) (pkf : Nat → Int32)  : Option (Int32 × Int32 × (Nat → Int32) × Int32 × (Nat → Int32) × Int32 × Int32 × Int32 × Int32 × (Nat → Int32) × (Nat → Int32) × (Nat → Int32) × Int32 × (Nat → Int32)) :=
  bd1 (f_T_areFlags x1) (fun r1 => (if r1 = 0 then (some ((-1 : Int32), un, uf, tn, tf, mc, ms, ml, dn, df, laf, eaf, pkn, pkf) : Option (Int32 × Int32 × (Nat → Int32) × Int32 × (Nat → Int32) × Int32 × Int32 × Int32 × Int32 × (Nat → Int32) × (Nat → Int32) × (Nat → Int32) × Int32 × (Nat → Int32))) else bd1 (f_T_isK x2) (fun r8 => (if r8 = 0 then (some ((-1 : Int32), un, uf, tn, tf, mc, ms, ml, dn, df, laf, eaf, pkn, pkf) : Option (Int32 × Int32 × (Nat → Int32) × Int32 × (Nat → Int32) × Int32 × Int32 × Int32 × Int32 × (Nat → Int32) × (Nat → Int32) × (Nat → Int32) × Int32 × (Nat → Int32))) else (if x4 < (1 : Int32) then (some ((-1 : Int32), un, uf, tn, tf, mc, ms, ml, dn, df, laf, eaf, pkn, pkf) : Option (Int32 × Int32 × (Nat → Int32) × Int32 × (Nat → Int32) × Int32 × Int32 × Int32 × Int32 × (Nat → Int32) × (Nat → Int32) × (Nat → Int32) × Int32 × (Nat → Int32))) else (if (8000 : Int32) < x4 then (some ((-1 : Int32), un, uf, tn, tf, mc, ms, ml, dn, df, laf, eaf, pkn, pkf) : Option (Int32 × Int32 × (Nat → Int32) × Int32 × (Nat → Int32) × Int32 × Int32 × Int32 × Int32 × (Nat → Int32) × (Nat → Int32) × (Nat → Int32) × Int32 × (Nat → Int32))) else bd1 (f_T_isWay x5) (fun r30 => (if r30 = 0 then (some ((-1 : Int32), un, uf, tn, tf, mc, ms, ml, dn, df, laf, eaf, pkn, pkf) : Option (Int32 × Int32 × (Nat → Int32) × Int32 × (Nat → Int32) × Int32 × Int32 × Int32 × Int32 × (Nat → Int32) × (Nat → Int32) × (Nat → Int32) × Int32 × (Nat → Int32))) else bd12 (f_FW_writeFrame N x1 x2 x3 x4 x5 gn gf tn tf ms ml dn df laf eaf hsn hsf pkn pkf) (fun r49 tn_49 tf_49 mc_49 ms_49 ml_49 dn_49 df_49 laf_49 eaf_49 pkn_49 pkf_49 => (if r49 = 0 then (some ((-1 : Int32), un, uf, tn_49, tf_49, mc_49, ms_49, ml_49, dn_49, df_49, laf_49, eaf_49, pkn_49, pkf_49) : Option (Int32 × Int32 × (Nat → Int32) × Int32 × (Nat → Int32) × Int32 × Int32 × Int32 × Int32 × (Nat → Int32) × (Nat → Int32) × (Nat → Int32) × Int32 × (Nat → Int32))) else bd3 (f_T_keepDraft un uf tn_49 tf_49) (fun r60 un_60 uf_60 => (some (r60, un_60, uf_60, tn_49, tf_49, mc_49, ms_49, ml_49, dn_49, df_49, laf_49, eaf_49, pkn_49, pkf_49) : Option (Int32 × Int32 × (Nat → Int32) × Int32 × (Nat → Int32) × Int32 × Int32 × Int32 × Int32 × (Nat → Int32) × (Nat → Int32) × (Nat → Int32) × Int32 × (Nat → Int32))))))))))))))
set_option maxHeartbeats 4000000 in
set_option maxRecDepth 100000 in
theorem k_T_frame_0 {r_z : Int32} {un_z : Int32} {uf_z : Nat → Int32} {tn_z : Int32} {tf_z : Nat → Int32} {mc_z : Int32} {ms_z : Int32} {ml_z : Int32} {dn_z : Int32} {df_z : Nat → Int32} {laf_z : Nat → Int32} {eaf_z : Nat → Int32} {pkn_z : Int32} {pkf_z : Nat → Int32} (C : Fx p s m args meth c cd_T_frame 7 R_T lw_g (some .int)) (hK : va_K (dC, dI) vwCl [(cB, .byte), (cI, .int), (cJ, .long)] s) (hA : ∀ q, s.heap.size ≤ q → A q) (x1 : Int32) (x2 : Int32) (x3 : Int32) (x4 : Int32) (x5 : Int32) (xp : Int32) (gn : Int32) (gf : Nat → Int32) (un : Int32) (uf : Nat → Int32) (hsn : Int32) (hsf : Nat → Int32) (tn : Int32) (tf : Nat → Int32) (mc : Int32) (ms : Int32) (ml : Int32) (dn : Int32) (df : Nat → Int32) (laf : Nat → Int32) (eaf : Nat → Int32) (pkn : Int32) (pkf : Nat → Int32)  (hf : j_T_frame_0 N x1 x2 x3 x4 x5 gn gf un uf hsn hsf tn tf mc ms ml dn df laf eaf pkn pkf  = some (r_z, un_z, uf_z, tn_z, tf_z, mc_z, ms_z, ml_z, dn_z, df_z, laf_z, eaf_z, pkn_z, pkf_z)) (hP : va_P (dC, dI) vwCl (wd_T_frame x g ga u ua hs hsa t ta bw mt d da la ea fw pk pka br fr cB cI cJ xp gn gf un uf hsn hsf tn tf mc ms ml dn df laf eaf pkn pkf) H) (hD : va_D A (wd_T_frame x g ga u ua hs hsa t ta bw mt d da la ea fw pk pka br fr cB cI cJ xp gn gf un uf hsn hsf tn tf mc ms ml dn df laf eaf pkn pkf)) (hS : va_S A s.heap H locs) (hl : lv_has ls 7 [(0, .ref x), (1, .int x1), (2, .int x2), (3, .int x3), (4, .int x4), (5, .int x5)]) : W p l e rm_T_frame s m args below meth c H locs 0 0 (MQ below (sQi (dC, dI) vwCl [(cB, .byte), (cI, .int), (cJ, .long)] A r_z (wd_T_frame x g ga u ua hs hsa t ta bw mt d da la ea fw pk pka br fr cB cI cJ xp gn gf un_z uf_z hsn hsf tn_z tf_z mc_z ms_z ml_z dn_z df_z laf_z eaf_z pkn_z pkf_z)) args s 0 0 A) (F0 m 0 ls []) := by
  obtain ⟨hx, hb, hml, hown, hts, hr, hlocks, hZ⟩ := id C
  unfold j_T_frame_0 at hf
  refine lv_iload_n hx hb d_T_frame_0 rfl (lv_at hl 1 rfl) ?_
  obtain ⟨r1, hc1, hf⟩ := bd1_some hf
  refine s_Si (As := [.int x1]) (rest := []) (wr := [(x, .inr (0, [.ref g, .ref u, .ref hs, .ref t, .ref bw, .ref fw, .ref br, .ref fr, .int xp])), (g, .inr (1, [.ref ga, .int gn])), (ga, .inl (cB, 8000, .inl gf)), (u, .inr (1, [.ref ua, .int un])), (ua, .inl (cB, 8000, .inl uf)), (hs, .inr (1, [.ref hsa, .int hsn])), (hsa, .inl (cB, 8000, .inl hsf)), (t, .inr (1, [.ref ta, .int tn])), (ta, .inl (cB, 8000, .inl tf)), (bw, .inr (2, [.ref hs, .ref mt, .ref d])), (mt, .inr (3, [.ref d, .ref la, .ref ea, .int mc, .int ms, .int ml])), (d, .inr (1, [.ref da, .int dn])), (da, .inl (cB, 16000, .inl df)), (la, .inl (cI, 4096, .inl laf)), (ea, .inl (cI, 16000, .inl eaf)), (fw, .inr (4, [.ref g, .ref t, .ref bw, .ref pk])), (pk, .inr (1, [.ref pka, .int pkn])), (pka, .inl (cB, 8000, .inl pkf))]) (ws' := wd_T_frame x g ga u ua hs hsa t ta bw mt d da la ea fw pk pka br fr cB cI cJ xp gn gf un uf hsn hsf tn tf mc ms ml dn df laf eaf pkn pkf) C.call (c_T_areFlags l dC dI cB cI cJ    x1 hc1) (va_cwS 1 hts (gd_S w_212 w_213 w_129 w_214) rfl rfl rfl hd_T_areFlags ⟨Nat.le_of_ble_eq_true rfl, Nat.le_of_ble_eq_true rfl⟩) rfl hl.1 rfl (Nat.le_of_ble_eq_true rfl) d_T_frame_1 ⟨Nat.le_of_ble_eq_true rfl, Nat.le_of_ble_eq_true rfl⟩ hZ hK hP hD hS hA [] [0, 1, 2, 3, 4, 5, 6, 7, 8, 9, 10, 11, 12, 13, 14, 15, 16, 17] [0, 1, 2, 3, 4, 5, 6, 7, 8, 9, 10, 11, 12, 13, 14, 15, 16, 17] rfl rfl rfl rfl (by decide) rfl rfl (fun H locs hP hD hS => ?_)
  refine lv_if_eq (tgt := 36) hx hb d_T_frame_4 (by decide) (fun c_4 => ?_) (fun c_4 => ?_)
  · have hf := br_pos c_4 hf
    refine lv_iconst (v := -1) hx hb d_T_frame_36 (by decide) ?_
    cases hf
    exact s_iret hx hb hr hlocks hP hK hD hS d_T_frame_37
  · have hf := br_neg c_4 hf
    refine lv_iload_n hx hb d_T_frame_7 rfl (lv_at hl 2 rfl) ?_
    obtain ⟨r8, hc8, hf⟩ := bd1_some hf
    refine s_Si (As := [.int x2]) (rest := []) (wr := [(x, .inr (0, [.ref g, .ref u, .ref hs, .ref t, .ref bw, .ref fw, .ref br, .ref fr, .int xp])), (g, .inr (1, [.ref ga, .int gn])), (ga, .inl (cB, 8000, .inl gf)), (u, .inr (1, [.ref ua, .int un])), (ua, .inl (cB, 8000, .inl uf)), (hs, .inr (1, [.ref hsa, .int hsn])), (hsa, .inl (cB, 8000, .inl hsf)), (t, .inr (1, [.ref ta, .int tn])), (ta, .inl (cB, 8000, .inl tf)), (bw, .inr (2, [.ref hs, .ref mt, .ref d])), (mt, .inr (3, [.ref d, .ref la, .ref ea, .int mc, .int ms, .int ml])), (d, .inr (1, [.ref da, .int dn])), (da, .inl (cB, 16000, .inl df)), (la, .inl (cI, 4096, .inl laf)), (ea, .inl (cI, 16000, .inl eaf)), (fw, .inr (4, [.ref g, .ref t, .ref bw, .ref pk])), (pk, .inr (1, [.ref pka, .int pkn])), (pka, .inl (cB, 8000, .inl pkf))]) (ws' := wd_T_frame x g ga u ua hs hsa t ta bw mt d da la ea fw pk pka br fr cB cI cJ xp gn gf un uf hsn hsf tn tf mc ms ml dn df laf eaf pkn pkf) C.call (c_T_isK l dC dI cB cI cJ    x2 hc8) (va_cwS 1 hts (gd_S w_215 w_216 w_129 w_217) rfl rfl rfl hd_T_isK ⟨Nat.le_of_ble_eq_true rfl, Nat.le_of_ble_eq_true rfl⟩) rfl hl.1 rfl (Nat.le_of_ble_eq_true rfl) d_T_frame_8 ⟨Nat.le_of_ble_eq_true rfl, Nat.le_of_ble_eq_true rfl⟩ hZ hK hP hD hS hA [] [0, 1, 2, 3, 4, 5, 6, 7, 8, 9, 10, 11, 12, 13, 14, 15, 16, 17] [0, 1, 2, 3, 4, 5, 6, 7, 8, 9, 10, 11, 12, 13, 14, 15, 16, 17] rfl rfl rfl rfl (by decide) rfl rfl (fun H locs hP hD hS => ?_)
    refine lv_if_eq (tgt := 36) hx hb d_T_frame_11 (by decide) (fun c_11 => ?_) (fun c_11 => ?_)
    · have hf := br_pos c_11 hf
      refine lv_iconst (v := -1) hx hb d_T_frame_36 (by decide) ?_
      cases hf
      exact s_iret hx hb hr hlocks hP hK hD hS d_T_frame_37
    · have hf := br_neg c_11 hf
      refine lv_iload hx hb d_T_frame_14 (lv_at hl 4 rfl) ?_
      refine lv_iconst (v := 1) hx hb d_T_frame_16 (by decide) ?_
      refine lv_icmp_lt (tgt := 36) hx hb d_T_frame_17 (by decide) (fun c_17 => ?_) (fun c_17 => ?_)
      · have hf := br_pos c_17 hf
        refine lv_iconst (v := -1) hx hb d_T_frame_36 (by decide) ?_
        cases hf
        exact s_iret hx hb hr hlocks hP hK hD hS d_T_frame_37
      · have hf := br_neg c_17 hf
        refine lv_iload hx hb d_T_frame_20 (lv_at hl 4 rfl) ?_
        refine lv_sipush (v := 8000) hx hb d_T_frame_22 (by decide) ?_
        refine lv_icmp_gt (tgt := 36) hx hb d_T_frame_25 (by decide) (fun c_25 => ?_) (fun c_25 => ?_)
        · have hf := br_pos c_25 hf
          refine lv_iconst (v := -1) hx hb d_T_frame_36 (by decide) ?_
          cases hf
          exact s_iret hx hb hr hlocks hP hK hD hS d_T_frame_37
        · have hf := br_neg c_25 hf
          refine lv_iload hx hb d_T_frame_28 (lv_at hl 5 rfl) ?_
          obtain ⟨r30, hc30, hf⟩ := bd1_some hf
          refine s_Si (As := [.int x5]) (rest := []) (wr := [(x, .inr (0, [.ref g, .ref u, .ref hs, .ref t, .ref bw, .ref fw, .ref br, .ref fr, .int xp])), (g, .inr (1, [.ref ga, .int gn])), (ga, .inl (cB, 8000, .inl gf)), (u, .inr (1, [.ref ua, .int un])), (ua, .inl (cB, 8000, .inl uf)), (hs, .inr (1, [.ref hsa, .int hsn])), (hsa, .inl (cB, 8000, .inl hsf)), (t, .inr (1, [.ref ta, .int tn])), (ta, .inl (cB, 8000, .inl tf)), (bw, .inr (2, [.ref hs, .ref mt, .ref d])), (mt, .inr (3, [.ref d, .ref la, .ref ea, .int mc, .int ms, .int ml])), (d, .inr (1, [.ref da, .int dn])), (da, .inl (cB, 16000, .inl df)), (la, .inl (cI, 4096, .inl laf)), (ea, .inl (cI, 16000, .inl eaf)), (fw, .inr (4, [.ref g, .ref t, .ref bw, .ref pk])), (pk, .inr (1, [.ref pka, .int pkn])), (pka, .inl (cB, 8000, .inl pkf))]) (ws' := wd_T_frame x g ga u ua hs hsa t ta bw mt d da la ea fw pk pka br fr cB cI cJ xp gn gf un uf hsn hsf tn tf mc ms ml dn df laf eaf pkn pkf) C.call (c_T_isWay l dC dI cB cI cJ    x5 hc30) (va_cwS 1 hts (gd_S w_127 w_128 w_129 w_130) rfl rfl rfl hd_T_isWay ⟨Nat.le_of_ble_eq_true rfl, Nat.le_of_ble_eq_true rfl⟩) rfl hl.1 rfl (Nat.le_of_ble_eq_true rfl) d_T_frame_30 ⟨Nat.le_of_ble_eq_true rfl, Nat.le_of_ble_eq_true rfl⟩ hZ hK hP hD hS hA [] [0, 1, 2, 3, 4, 5, 6, 7, 8, 9, 10, 11, 12, 13, 14, 15, 16, 17] [0, 1, 2, 3, 4, 5, 6, 7, 8, 9, 10, 11, 12, 13, 14, 15, 16, 17] rfl rfl rfl rfl (by decide) rfl rfl (fun H locs hP hD hS => ?_)
          refine lv_if_ne (tgt := 38) hx hb d_T_frame_33 (by decide) (fun c_33 => ?_) (fun c_33 => ?_)
          · have hf := br_neg c_33 hf
            refine lv_aload_n hx hb d_T_frame_38 rfl (lv_at hl 0 rfl) ?_
            refine va_get (D := (dC, dI)) (ci := 0) (v := .ref fw) (C := R_T) (T := T_T) (N := 9) hx hb hts w_7 hown hK hP 0 rfl rfl 5 (by decide) (hts _ w_218) (fun _ h9 => h9) rfl d_T_frame_39 ?_
            refine lv_iload_n hx hb d_T_frame_42 rfl (lv_at hl 1 rfl) ?_
            refine lv_iload_n hx hb d_T_frame_43 rfl (lv_at hl 2 rfl) ?_
            refine lv_iload_n hx hb d_T_frame_44 rfl (lv_at hl 3 rfl) ?_
            refine lv_iload hx hb d_T_frame_45 (lv_at hl 4 rfl) ?_
            refine lv_iload hx hb d_T_frame_47 (lv_at hl 5 rfl) ?_
            obtain ⟨r49, tn_49, tf_49, mc_49, ms_49, ml_49, dn_49, df_49, laf_49, eaf_49, pkn_49, pkf_49, hc49, hf⟩ := bd12_some hf
            refine s_Vi (As := [.int x1, .int x2, .int x3, .int x4, .int x5]) (rest := []) (wr := [(x, .inr (0, [.ref g, .ref u, .ref hs, .ref t, .ref bw, .ref fw, .ref br, .ref fr, .int xp])), (u, .inr (1, [.ref ua, .int un])), (ua, .inl (cB, 8000, .inl uf))]) (ws' := wd_T_frame x g ga u ua hs hsa t ta bw mt d da la ea fw pk pka br fr cB cI cJ xp gn gf un uf hsn hsf tn_49 tf_49 mc_49 ms_49 ml_49 dn_49 df_49 laf_49 eaf_49 pkn_49 pkf_49) C.call (c_FW_writeFrame l dC dI cB cI cJ fw g ga t ta bw mt d da la ea hs hsa pk pka  gn gf tn tf mc ms ml dn df laf eaf hsn hsf pkn pkf x1 x2 x3 x4 x5 hc49) (cwV 5 hts (gd_V w_219 w_220 w_221 w_199 w_222) rfl rfl rfl ⟨rfl, hd_FW_writeFrame⟩ ⟨Nat.le_of_ble_eq_true rfl, Nat.le_of_ble_eq_true rfl⟩) rfl hl.1 rfl (Nat.le_of_ble_eq_true rfl) d_T_frame_49 ⟨Nat.le_of_ble_eq_true rfl, Nat.le_of_ble_eq_true rfl⟩ hZ hK hP hD hS hA 4 15 rfl rfl [15, 1, 2, 7, 8, 9, 10, 11, 12, 13, 14, 5, 6, 16, 17] [0, 3, 4] [0, 4, 5, 1, 2, 14, 15, 6, 7, 8, 9, 10, 11, 12, 13, 3, 16, 17] rfl rfl rfl rfl (by decide) rfl rfl (fun H locs hP hD hS => ?_)
            refine lv_istore (lv' := [(6, .int r49), (0, .ref x), (1, .int x1), (2, .int x2), (3, .int x3), (4, .int x4), (5, .int x5)]) hx hb d_T_frame_52 hl (by decide) rfl (fun ls hl => ?_)
            refine lv_iload hx hb d_T_frame_54 (lv_at hl 0 rfl) ?_
            refine lv_if_eq (tgt := 66) hx hb d_T_frame_56 (by decide) (fun c_56 => ?_) (fun c_56 => ?_)
            · have hf := br_pos c_56 hf
              refine lv_iconst (v := -1) hx hb d_T_frame_66 (by decide) ?_
              cases hf
              exact s_iret hx hb hr hlocks hP hK hD hS d_T_frame_67
            · have hf := br_neg c_56 hf
              refine lv_aload_n hx hb d_T_frame_59 rfl (lv_at hl 1 rfl) ?_
              obtain ⟨r60, un_60, uf_60, hc60, hf⟩ := bd3_some hf
              refine s_Vi (As := []) (rest := []) (wr := [(g, .inr (1, [.ref ga, .int gn])), (ga, .inl (cB, 8000, .inl gf)), (hs, .inr (1, [.ref hsa, .int hsn])), (hsa, .inl (cB, 8000, .inl hsf)), (bw, .inr (2, [.ref hs, .ref mt, .ref d])), (mt, .inr (3, [.ref d, .ref la, .ref ea, .int mc_49, .int ms_49, .int ml_49])), (d, .inr (1, [.ref da, .int dn_49])), (da, .inl (cB, 16000, .inl df_49)), (la, .inl (cI, 4096, .inl laf_49)), (ea, .inl (cI, 16000, .inl eaf_49)), (fw, .inr (4, [.ref g, .ref t, .ref bw, .ref pk])), (pk, .inr (1, [.ref pka, .int pkn_49])), (pka, .inl (cB, 8000, .inl pkf_49))]) (ws' := wd_T_frame x g ga u ua hs hsa t ta bw mt d da la ea fw pk pka br fr cB cI cJ xp gn gf un_60 uf_60 hsn hsf tn_49 tf_49 mc_49 ms_49 ml_49 dn_49 df_49 laf_49 eaf_49 pkn_49 pkf_49) C.call (c_T_keepDraft l dC dI cB cI cJ x u ua t ta g hs bw fw br fr  xp un uf tn_49 tf_49  hc60) (cwV 0 hts (gd_V w_141 w_142 w_143 w_129 w_144) rfl rfl rfl ⟨rfl, hd_T_keepDraft⟩ ⟨Nat.le_of_ble_eq_true rfl, Nat.le_of_ble_eq_true rfl⟩) rfl hl.1 rfl (Nat.le_of_ble_eq_true rfl) d_T_frame_60 ⟨Nat.le_of_ble_eq_true rfl, Nat.le_of_ble_eq_true rfl⟩ hZ hK hP hD hS hA 0 0 rfl rfl [0, 3, 4, 7, 8] [1, 2, 5, 6, 9, 10, 11, 12, 13, 14, 15, 16, 17] [13, 0, 1, 14, 15, 2, 3, 16, 17, 4, 5, 6, 7, 8, 9, 10, 11, 12] rfl rfl rfl rfl (by decide) rfl rfl (fun H locs hP hD hS => ?_)
              refine lv_goto (tgt := 67) hx hb d_T_frame_63 (by decide) ?_
              cases hf
              exact s_iret hx hb hr hlocks hP hK hD hS d_T_frame_67
          · have hf := br_pos c_33 hf
            refine lv_iconst (v := -1) hx hb d_T_frame_36 (by decide) ?_
            cases hf
            exact s_iret hx hb hr hlocks hP hK hD hS d_T_frame_37
end
noncomputable abbrev f_T_frame (N : Nat) (x1 : Int32) (x2 : Int32) (x3 : Int32) (x4 : Int32) (x5 : Int32) (gn : Int32) (gf : Nat → Int32) (un : Int32) (uf : Nat → Int32) (hsn : Int32) (hsf : Nat → Int32) (tn : Int32) (tf : Nat → Int32) (mc : Int32) (ms : Int32) (ml : Int32) (dn : Int32) (df : Nat → Int32) (laf : Nat → Int32) (eaf : Nat → Int32) (pkn : Int32) (pkf : Nat → Int32) : Option (Int32 × Int32 × (Nat → Int32) × Int32 × (Nat → Int32) × Int32 × Int32 × Int32 × Int32 × (Nat → Int32) × (Nat → Int32) × (Nat → Int32) × Int32 × (Nat → Int32)) := j_T_frame_0 N x1 x2 x3 x4 x5 gn gf un uf hsn hsf tn tf mc ms ml dn df laf eaf pkn pkf
set_option maxRecDepth 100000 in
theorem c_T_frame {N : Nat} (l : Launch) (dC : Nat → ClassId) (dI : Nat → Nat → Nat) (cB cI cJ : ClassId) (x g ga u ua hs hsa t ta bw mt d da la ea fw pk pka br fr : Nat) (xp : Int32) (gn : Int32) (gf : Nat → Int32) (un : Int32) (uf : Nat → Int32) (hsn : Int32) (hsf : Nat → Int32) (tn : Int32) (tf : Nat → Int32) (mc : Int32) (ms : Int32) (ml : Int32) (dn : Int32) (df : Nat → Int32) (laf : Nat → Int32) (eaf : Nat → Int32) (pkn : Int32) (pkf : Nat → Int32) (x1 : Int32) (x2 : Int32) (x3 : Int32) (x4 : Int32) (x5 : Int32) {r_z : Int32} {un_z : Int32} {uf_z : Nat → Int32} {tn_z : Int32} {tf_z : Nat → Int32} {mc_z : Int32} {ms_z : Int32} {ml_z : Int32} {dn_z : Int32} {df_z : Nat → Int32} {laf_z : Nat → Int32} {eaf_z : Nat → Int32} {pkn_z : Int32} {pkf_z : Nat → Int32} (hf : f_T_frame N x1 x2 x3 x4 x5 gn gf un uf hsn hsf tn tf mc ms ml dn df laf eaf pkn pkf = some (r_z, un_z, uf_z, tn_z, tf_z, mc_z, ms_z, ml_z, dn_z, df_z, laf_z, eaf_z, pkn_z, pkf_z)) : MetI l y_T_frame ws_T_frame rm_T_frame (dC, dI) vwCl [(cB, .byte), (cI, .int), (cJ, .long)] [.ref x, .int x1, .int x2, .int x3, .int x4, .int x5] (wd_T_frame x g ga u ua hs hsa t ta bw mt d da la ea fw pk pka br fr cB cI cJ xp gn gf un uf hsn hsf tn tf mc ms ml dn df laf eaf pkn pkf) r_z (wd_T_frame x g ga u ua hs hsa t ta bw mt d da la ea fw pk pka br fr cB cI cJ xp gn gf un_z uf_z hsn hsf tn_z tf_z mc_z ms_z ml_z dn_z df_z laf_z eaf_z pkn_z pkf_z) 0 0 :=
  s_ofi (bytes := cd_T_frame) (maxL := 7) (ret := (some .int)) (by decide) rfl (Nat.le_of_ble_eq_true rfl) (fun p e s m below meth c A ls C hK hA hP hD hS hl => k_T_frame_0 C hK hA x1 x2 x3 x4 x5 xp gn gf un uf hsn hsf tn tf mc ms ml dn df laf eaf pkn pkf hf hP hD hS (lv_sub hl [0, 1, 2, 3, 4, 5] rfl))
