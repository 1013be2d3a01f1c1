abbrev wd_Mat_enough (cB cI cJ : ClassId) : va_W := []
abbrev rm_Mat_enough : Room := { frames := 0, cells := 0, slots := 0, locals := 0 }
section
variable {p : Program} {l : Launch} {e : Env} {s : State} {m : MethodId} {args : Array Value} {below : List Frame} {meth : Method} {c : Code} {dC : Nat → ClassId} {dI : Nat → Nat → Nat} {A : Nat → Prop} {cB cI cJ : ClassId} {H : Heap} {locs : List Loc} {ls : Array Slot} {N : Nat} 
noncomputable def j_Mat_enough_0 (x0 : Int32) (x1 : Int32)  : Option (Int32) :=
  (if x1 < (2 : Int32) then (if x1 = (1 : Int32) then (if x0 < (8 : Int32) then (some (4 : Int32) : Option (Int32)) else (some (8 : Int32) : Option (Int32))) else (some (4 : Int32) : Option (Int32))) else (some x0 : Option (Int32)))
set_option maxHeartbeats 4000000 in
set_option maxRecDepth 100000 in
theorem k_Mat_enough_0 {r_z : Int32} (C : Fx p s m args meth c cd_Mat_enough 2 R_Mat lw_g (some .int)) (hK : va_K (dC, dI) vwCl [(cB, .byte), (cI, .int), (cJ, .long)] s) (hA : ∀ q, s.heap.size ≤ q → A q) (x0 : Int32) (x1 : Int32)  (hf : j_Mat_enough_0 x0 x1  = some r_z) (hP : va_P (dC, dI) vwCl (wd_Mat_enough cB cI cJ) H) (hD : va_D A (wd_Mat_enough cB cI cJ)) (hS : va_S A s.heap H locs) (hl : lv_has ls 2 [(0, .int x0), (1, .int x1)]) : W p l e rm_Mat_enough s m args below meth c H locs 0 0 (MQ below (sQi (dC, dI) vwCl [(cB, .byte), (cI, .int), (cJ, .long)] A r_z (wd_Mat_enough cB cI cJ)) args s 0 0 A) (F0 m 0 ls []) := by
  obtain ⟨hx, hb, hml, hown, hts, hr, hlocks, hZ⟩ := id C
  unfold j_Mat_enough_0 at hf
  refine lv_iload_n hx hb d_Mat_enough_0 rfl (lv_at hl 1 rfl) ?_
  refine lv_iconst (v := 2) hx hb d_Mat_enough_1 (by decide) ?_
  refine lv_icmp_lt (tgt := 7) hx hb d_Mat_enough_2 (by decide) (fun c_2 => ?_) (fun c_2 => ?_)
  · have hf := br_pos c_2 hf
    refine lv_iload_n hx hb d_Mat_enough_7 rfl (lv_at hl 1 rfl) ?_
    refine lv_iconst (v := 1) hx hb d_Mat_enough_8 (by decide) ?_
    refine lv_icmp_ne (tgt := 23) hx hb d_Mat_enough_9 (by decide) (fun c_9 => ?_) (fun c_9 => ?_)
    · have hf := br_neg c_9 hf
      refine lv_iconst (v := 4) hx hb d_Mat_enough_23 (by decide) ?_
      cases hf
      exact s_iret hx hb hr hlocks hP hK hD hS d_Mat_enough_24
    · have hf := br_pos c_9 hf
      refine lv_iload_n hx hb d_Mat_enough_12 rfl (lv_at hl 0 rfl) ?_
      refine lv_bipush (v := 8) hx hb d_Mat_enough_13 (by decide) ?_
      refine lv_icmp_lt (tgt := 23) hx hb d_Mat_enough_15 (by decide) (fun c_15 => ?_) (fun c_15 => ?_)
      · have hf := br_pos c_15 hf
        refine lv_iconst (v := 4) hx hb d_Mat_enough_23 (by decide) ?_
        cases hf
        exact s_iret hx hb hr hlocks hP hK hD hS d_Mat_enough_24
      · have hf := br_neg c_15 hf
        refine lv_bipush (v := 8) hx hb d_Mat_enough_18 (by decide) ?_
        refine lv_goto (tgt := 24) hx hb d_Mat_enough_20 (by decide) ?_
        cases hf
        exact s_iret hx hb hr hlocks hP hK hD hS d_Mat_enough_24
  · have hf := br_neg c_2 hf
    refine lv_iload_n hx hb d_Mat_enough_5 rfl (lv_at hl 0 rfl) ?_
    cases hf
    exact s_iret hx hb hr hlocks hP hK hD hS d_Mat_enough_6
end
noncomputable abbrev f_Mat_enough (x0 : Int32) (x1 : Int32) : Option (Int32) := j_Mat_enough_0 x0 x1
set_option maxRecDepth 100000 in
theorem c_Mat_enough (l : Launch) (dC : Nat → ClassId) (dI : Nat → Nat → Nat) (cB cI cJ : ClassId)   (x0 : Int32) (x1 : Int32) {r_z : Int32} (hf : f_Mat_enough x0 x1 = some r_z) : MetI l y_Mat_enough ws_Mat_enough rm_Mat_enough (dC, dI) vwCl [(cB, .byte), (cI, .int), (cJ, .long)] [.int x0, .int x1] (wd_Mat_enough cB cI cJ) r_z (wd_Mat_enough cB cI cJ) 0 0 :=
  s_ofi (bytes := cd_Mat_enough) (maxL := 2) (ret := (some .int)) (by decide) rfl (Nat.le_of_ble_eq_true rfl) (fun p e s m below meth c A ls C hK hA hP hD hS hl => k_Mat_enough_0 C hK hA x0 x1 hf hP hD hS (lv_sub hl [0, 1] rfl))
