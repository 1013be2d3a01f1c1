abbrev wd_T_areFlags (cB cI cJ : ClassId) : va_W := []
abbrev rm_T_areFlags : Room := { frames := 0, cells := 0, slots := 0, locals := 0 }
section
variable {p : Program} {l : Launch} {e : Env} {s : State} {m : MethodId} {args : Array Value} {below : List Frame} {meth : Method} {c : Code} {dC : Nat → ClassId} {dI : Nat → Nat → Nat} {A : Nat → Prop} {cB cI cJ : ClassId} {H : Heap} {locs : List Loc} {ls : Array Slot} {N : Nat} 
noncomputable def j_T_areFlags_0 (x0 : Int32)  : Option (Int32) :=
  (if (x0 &&& (-62 : Int32)) = (64 : Int32) then (some (1 : Int32) : Option (Int32)) else (some (0 : Int32) : Option (Int32)))
set_option maxHeartbeats 4000000 in
set_option maxRecDepth 100000 in
theorem k_T_areFlags_0 {r_z : Int32} (C : Fx p s m args meth c cd_T_areFlags 1 R_T lw_g (some .boolean)) (hK : va_K (dC, dI) vwCl [(cB, .byte), (cI, .int), (cJ, .long)] s) (hA : ∀ q, s.heap.size ≤ q → A q) (x0 : Int32)  (hf : j_T_areFlags_0 x0  = some r_z) (hP : va_P (dC, dI) vwCl (wd_T_areFlags cB cI cJ) H) (hD : va_D A (wd_T_areFlags cB cI cJ)) (hS : va_S A s.heap H locs) (hl : lv_has ls 1 [(0, .int x0)]) : W p l e rm_T_areFlags s m args below meth c H locs 0 0 (MQ below (sQi (dC, dI) vwCl [(cB, .byte), (cI, .int), (cJ, .long)] A r_z (wd_T_areFlags cB cI cJ)) args s 0 0 A) (F0 m 0 ls []) := by
  obtain ⟨hx, hb, hml, hown, hts, hr, hlocks, hZ⟩ := id C
  unfold j_T_areFlags_0 at hf
  refine lv_iload_n hx hb d_T_areFlags_0 rfl (lv_at hl 0 rfl) ?_
  refine lv_bipush (v := -62) hx hb d_T_areFlags_1 (by decide) ?_
  refine lv_iand hx hb d_T_areFlags_3 ?_
  refine lv_bipush (v := 64) hx hb d_T_areFlags_4 (by decide) ?_
  refine lv_icmp_ne (tgt := 13) hx hb d_T_areFlags_6 (by decide) (fun c_6 => ?_) (fun c_6 => ?_)
  · have hf := br_neg c_6 hf
    refine lv_iconst (v := 0) hx hb d_T_areFlags_13 (by decide) ?_
    cases hf
    exact s_zret hx hb hr (by decide) hlocks hP hK hD hS d_T_areFlags_14
  · have hf := br_pos c_6 hf
    refine lv_iconst (v := 1) hx hb d_T_areFlags_9 (by decide) ?_
    refine lv_goto (tgt := 14) hx hb d_T_areFlags_10 (by decide) ?_
    cases hf
    exact s_zret hx hb hr (by decide) hlocks hP hK hD hS d_T_areFlags_14
end
noncomputable abbrev f_T_areFlags (x0 : Int32) : Option (Int32) := j_T_areFlags_0 x0
set_option maxRecDepth 100000 in
theorem c_T_areFlags (l : Launch) (dC : Nat → ClassId) (dI : Nat → Nat → Nat) (cB cI cJ : ClassId)   (x0 : Int32) {r_z : Int32} (hf : f_T_areFlags x0 = some r_z) : MetI l y_T_areFlags ws_T_areFlags rm_T_areFlags (dC, dI) vwCl [(cB, .byte), (cI, .int), (cJ, .long)] [.int x0] (wd_T_areFlags cB cI cJ) r_z (wd_T_areFlags cB cI cJ) 0 0 :=
  s_ofi (bytes := cd_T_areFlags) (maxL := 1) (ret := (some .boolean)) (by decide) rfl (Nat.le_of_ble_eq_true rfl) (fun p e s m below meth c A ls C hK hA hP hD hS hl => k_T_areFlags_0 C hK hA x0 hf hP hD hS (lv_sub hl [0] rfl))

abbrev wd_T_isWay (cB cI cJ : ClassId) : va_W := []
abbrev rm_T_isWay : Room := { frames := 0, cells := 0, slots := 0, locals := 0 }
section
variable {p : Program} {l : Launch} {e : Env} {s : State} {m : MethodId} {args : Array Value} {below : List Frame} {meth : Method} {c : Code} {dC : Nat → ClassId} {dI : Nat → Nat → Nat} {A : Nat → Prop} {cB cI cJ : ClassId} {H : Heap} {locs : List Loc} {ls : Array Slot} {N : Nat} 
noncomputable def j_T_isWay_0 (x0 : Int32)  : Option (Int32) :=
  (if x0 < 0 then (some (0 : Int32) : Option (Int32)) else (if (3 : Int32) < x0 then (some (0 : Int32) : Option (Int32)) else (some (1 : Int32) : Option (Int32))))
set_option maxHeartbeats 4000000 in
set_option maxRecDepth 100000 in
theorem k_T_isWay_0 {r_z : Int32} (C : Fx p s m args meth c cd_T_isWay 1 R_T lw_g (some .boolean)) (hK : va_K (dC, dI) vwCl [(cB, .byte), (cI, .int), (cJ, .long)] s) (hA : ∀ q, s.heap.size ≤ q → A q) (x0 : Int32)  (hf : j_T_isWay_0 x0  = some r_z) (hP : va_P (dC, dI) vwCl (wd_T_isWay cB cI cJ) H) (hD : va_D A (wd_T_isWay cB cI cJ)) (hS : va_S A s.heap H locs) (hl : lv_has ls 1 [(0, .int x0)]) : W p l e rm_T_isWay s m args below meth c H locs 0 0 (MQ below (sQi (dC, dI) vwCl [(cB, .byte), (cI, .int), (cJ, .long)] A r_z (wd_T_isWay cB cI cJ)) args s 0 0 A) (F0 m 0 ls []) := by
  obtain ⟨hx, hb, hml, hown, hts, hr, hlocks, hZ⟩ := id C
  unfold j_T_isWay_0 at hf
  refine lv_iload_n hx hb d_T_isWay_0 rfl (lv_at hl 0 rfl) ?_
  refine lv_if_lt (tgt := 13) hx hb d_T_isWay_1 (by decide) (fun c_1 => ?_) (fun c_1 => ?_)
  · have hf := br_pos c_1 hf
    refine lv_iconst (v := 0) hx hb d_T_isWay_13 (by decide) ?_
    cases hf
    exact s_zret hx hb hr (by decide) hlocks hP hK hD hS d_T_isWay_14
  · have hf := br_neg c_1 hf
    refine lv_iload_n hx hb d_T_isWay_4 rfl (lv_at hl 0 rfl) ?_
    refine lv_iconst (v := 3) hx hb d_T_isWay_5 (by decide) ?_
    refine lv_icmp_gt (tgt := 13) hx hb d_T_isWay_6 (by decide) (fun c_6 => ?_) (fun c_6 => ?_)
    · have hf := br_pos c_6 hf
      refine lv_iconst (v := 0) hx hb d_T_isWay_13 (by decide) ?_
      cases hf
      exact s_zret hx hb hr (by decide) hlocks hP hK hD hS d_T_isWay_14
    · have hf := br_neg c_6 hf
      refine lv_iconst (v := 1) hx hb d_T_isWay_9 (by decide) ?_
      refine lv_goto (tgt := 14) hx hb d_T_isWay_10 (by decide) ?_
      cases hf
      exact s_zret hx hb hr (by decide) hlocks hP hK hD hS d_T_isWay_14
end
noncomputable abbrev f_T_isWay (x0 : Int32) : Option (Int32) := j_T_isWay_0 x0
set_option maxRecDepth 100000 in
theorem c_T_isWay (l : Launch) (dC : Nat → ClassId) (dI : Nat → Nat → Nat) (cB cI cJ : ClassId)   (x0 : Int32) {r_z : Int32} (hf : f_T_isWay x0 = some r_z) : MetI l y_T_isWay ws_T_isWay rm_T_isWay (dC, dI) vwCl [(cB, .byte), (cI, .int), (cJ, .long)] [.int x0] (wd_T_isWay cB cI cJ) r_z (wd_T_isWay cB cI cJ) 0 0 :=
  s_ofi (bytes := cd_T_isWay) (maxL := 1) (ret := (some .boolean)) (by decide) rfl (Nat.le_of_ble_eq_true rfl) (fun p e s m below meth c A ls C hK hA hP hD hS hl => k_T_isWay_0 C hK hA x0 hf hP hD hS (lv_sub hl [0] rfl))

abbrev wd_T_isK (cB cI cJ : ClassId) : va_W := []
abbrev rm_T_isK : Room := { frames := 0, cells := 0, slots := 0, locals := 0 }
section
variable {p : Program} {l : Launch} {e : Env} {s : State} {m : MethodId} {args : Array Value} {below : List Frame} {meth : Method} {c : Code} {dC : Nat → ClassId} {dI : Nat → Nat → Nat} {A : Nat → Prop} {cB cI cJ : ClassId} {H : Heap} {locs : List Loc} {ls : Array Slot} {N : Nat} 
noncomputable def j_T_isK_0 (x0 : Int32)  : Option (Int32) :=
  (if x0 < (4 : Int32) then (some (0 : Int32) : Option (Int32)) else (if (7 : Int32) < x0 then (some (0 : Int32) : Option (Int32)) else (some (1 : Int32) : Option (Int32))))
set_option maxHeartbeats 4000000 in
set_option maxRecDepth 100000 in
theorem k_T_isK_0 {r_z : Int32} (C : Fx p s m args meth c cd_T_isK 1 R_T lw_g (some .boolean)) (hK : va_K (dC, dI) vwCl [(cB, .byte), (cI, .int), (cJ, .long)] s) (hA : ∀ q, s.heap.size ≤ q → A q) (x0 : Int32)  (hf : j_T_isK_0 x0  = some r_z) (hP : va_P (dC, dI) vwCl (wd_T_isK cB cI cJ) H) (hD : va_D A (wd_T_isK cB cI cJ)) (hS : va_S A s.heap H locs) (hl : lv_has ls 1 [(0, .int x0)]) : W p l e rm_T_isK s m args below meth c H locs 0 0 (MQ below (sQi (dC, dI) vwCl [(cB, .byte), (cI, .int), (cJ, .long)] A r_z (wd_T_isK cB cI cJ)) args s 0 0 A) (F0 m 0 ls []) := by
  obtain ⟨hx, hb, hml, hown, hts, hr, hlocks, hZ⟩ := id C
  unfold j_T_isK_0 at hf
  refine lv_iload_n hx hb d_T_isK_0 rfl (lv_at hl 0 rfl) ?_
  refine lv_iconst (v := 4) hx hb d_T_isK_1 (by decide) ?_
  refine lv_icmp_lt (tgt := 15) hx hb d_T_isK_2 (by decide) (fun c_2 => ?_) (fun c_2 => ?_)
  · have hf := br_pos c_2 hf
    refine lv_iconst (v := 0) hx hb d_T_isK_15 (by decide) ?_
    cases hf
    exact s_zret hx hb hr (by decide) hlocks hP hK hD hS d_T_isK_16
  · have hf := br_neg c_2 hf
    refine lv_iload_n hx hb d_T_isK_5 rfl (lv_at hl 0 rfl) ?_
    refine lv_bipush (v := 7) hx hb d_T_isK_6 (by decide) ?_
    refine lv_icmp_gt (tgt := 15) hx hb d_T_isK_8 (by decide) (fun c_8 => ?_) (fun c_8 => ?_)
    · have hf := br_pos c_8 hf
      refine lv_iconst (v := 0) hx hb d_T_isK_15 (by decide) ?_
      cases hf
      exact s_zret hx hb hr (by decide) hlocks hP hK hD hS d_T_isK_16
    · have hf := br_neg c_8 hf
      refine lv_iconst (v := 1) hx hb d_T_isK_11 (by decide) ?_
      refine lv_goto (tgt := 16) hx hb d_T_isK_12 (by decide) ?_
      cases hf
      exact s_zret hx hb hr (by decide) hlocks hP hK hD hS d_T_isK_16
end
noncomputable abbrev f_T_isK (x0 : Int32) : Option (Int32) := j_T_isK_0 x0
set_option maxRecDepth 100000 in
theorem c_T_isK (l : Launch) (dC : Nat → ClassId) (dI : Nat → Nat → Nat) (cB cI cJ : ClassId)   (x0 : Int32) {r_z : Int32} (hf : f_T_isK x0 = some r_z) : MetI l y_T_isK ws_T_isK rm_T_isK (dC, dI) vwCl [(cB, .byte), (cI, .int), (cJ, .long)] [.int x0] (wd_T_isK cB cI cJ) r_z (wd_T_isK cB cI cJ) 0 0 :=
  s_ofi (bytes := cd_T_isK) (maxL := 1) (ret := (some .boolean)) (by decide) rfl (Nat.le_of_ble_eq_true rfl) (fun p e s m below meth c A ls C hK hA hP hD hS hl => k_T_isK_0 C hK hA x0 hf hP hD hS (lv_sub hl [0] rfl))

abbrev wd_T_isMost (cB cI cJ : ClassId) : va_W := []
abbrev rm_T_isMost : Room := { frames := 0, cells := 0, slots := 0, locals := 0 }
section
variable {p : Program} {l : Launch} {e : Env} {s : State} {m : MethodId} {args : Array Value} {below : List Frame} {meth : Method} {c : Code} {dC : Nat → ClassId} {dI : Nat → Nat → Nat} {A : Nat → Prop} {cB cI cJ : ClassId} {H : Heap} {locs : List Loc} {ls : Array Slot} {N : Nat} 
noncomputable def j_T_isMost_0 (x0 : Int32)  : Option (Int32) :=
  (if x0 < 0 then (some (0 : Int32) : Option (Int32)) else (if (8000 : Int32) < x0 then (some (0 : Int32) : Option (Int32)) else (some (1 : Int32) : Option (Int32))))
set_option maxHeartbeats 4000000 in
set_option maxRecDepth 100000 in
theorem k_T_isMost_0 {r_z : Int32} (C : Fx p s m args meth c cd_T_isMost 1 R_T lw_g (some .boolean)) (hK : va_K (dC, dI) vwCl [(cB, .byte), (cI, .int), (cJ, .long)] s) (hA : ∀ q, s.heap.size ≤ q → A q) (x0 : Int32)  (hf : j_T_isMost_0 x0  = some r_z) (hP : va_P (dC, dI) vwCl (wd_T_isMost cB cI cJ) H) (hD : va_D A (wd_T_isMost cB cI cJ)) (hS : va_S A s.heap H locs) (hl : lv_has ls 1 [(0, .int x0)]) : W p l e rm_T_isMost s m args below meth c H locs 0 0 (MQ below (sQi (dC, dI) vwCl [(cB, .byte), (cI, .int), (cJ, .long)] A r_z (wd_T_isMost cB cI cJ)) args s 0 0 A) (F0 m 0 ls []) := by
  obtain ⟨hx, hb, hml, hown, hts, hr, hlocks, hZ⟩ := id C
  unfold j_T_isMost_0 at hf
  refine lv_iload_n hx hb d_T_isMost_0 rfl (lv_at hl 0 rfl) ?_
  refine lv_if_lt (tgt := 15) hx hb d_T_isMost_1 (by decide) (fun c_1 => ?_) (fun c_1 => ?_)
  · have hf := br_pos c_1 hf
    refine lv_iconst (v := 0) hx hb d_T_isMost_15 (by decide) ?_
    cases hf
    exact s_zret hx hb hr (by decide) hlocks hP hK hD hS d_T_isMost_16
  · have hf := br_neg c_1 hf
    refine lv_iload_n hx hb d_T_isMost_4 rfl (lv_at hl 0 rfl) ?_
    refine lv_sipush (v := 8000) hx hb d_T_isMost_5 (by decide) ?_
    refine lv_icmp_gt (tgt := 15) hx hb d_T_isMost_8 (by decide) (fun c_8 => ?_) (fun c_8 => ?_)
    · have hf := br_pos c_8 hf
      refine lv_iconst (v := 0) hx hb d_T_isMost_15 (by decide) ?_
      cases hf
      exact s_zret hx hb hr (by decide) hlocks hP hK hD hS d_T_isMost_16
    · have hf := br_neg c_8 hf
      refine lv_iconst (v := 1) hx hb d_T_isMost_11 (by decide) ?_
      refine lv_goto (tgt := 16) hx hb d_T_isMost_12 (by decide) ?_
      cases hf
      exact s_zret hx hb hr (by decide) hlocks hP hK hD hS d_T_isMost_16
end
noncomputable abbrev f_T_isMost (x0 : Int32) : Option (Int32) := j_T_isMost_0 x0
set_option maxRecDepth 100000 in
theorem c_T_isMost (l : Launch) (dC : Nat → ClassId) (dI : Nat → Nat → Nat) (cB cI cJ : ClassId)   (x0 : Int32) {r_z : Int32} (hf : f_T_isMost x0 = some r_z) : MetI l y_T_isMost ws_T_isMost rm_T_isMost (dC, dI) vwCl [(cB, .byte), (cI, .int), (cJ, .long)] [.int x0] (wd_T_isMost cB cI cJ) r_z (wd_T_isMost cB cI cJ) 0 0 :=
  s_ofi (bytes := cd_T_isMost) (maxL := 1) (ret := (some .boolean)) (by decide) rfl (Nat.le_of_ble_eq_true rfl) (fun p e s m below meth c A ls C hK hA hP hD hS hl => k_T_isMost_0 C hK hA x0 hf hP hD hS (lv_sub hl [0] rfl))
