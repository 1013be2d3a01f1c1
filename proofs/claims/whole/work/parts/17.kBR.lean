abbrev wd_BR_fault (br i h t : Nat) (cB cI cJ : ClassId) (b_at : Int32) (b_end : Int32) (b_start : Int32) (b_most : Int32) (b_dist : Int32) (b_place : Int32) : va_W := [(br, .inr (5, [.ref i, .ref h, .ref t, .int b_at, .int b_end, .int b_start, .int b_most, .int b_dist, .int b_place]))]
abbrev rm_BR_fault : Room := { frames := 0, cells := 0, slots := 0, locals := 0 }
section
variable {p : Program} {l : Launch} {e : Env} {s : State} {m : MethodId} {args : Array Value} {below : List Frame} {meth : Method} {c : Code} {dC : Nat → ClassId} {dI : Nat → Nat → Nat} {A : Nat → Prop} {cB cI cJ : ClassId} {H : Heap} {locs : List Loc} {ls : Array Slot} {N : Nat} {br i h t : Nat}
noncomputable def j_BR_fault_0 (x1 : Int32) (x2 : Int32)  : Option (Int32 × Int32) :=
  (some (x1, x2) : Option (Int32 × Int32))
set_option maxHeartbeats 4000000 in
set_option maxRecDepth 100000 in
theorem k_BR_fault_0 {r_z : Int32} {b_place_z : Int32} (C : Fx p s m args meth c cd_BR_fault 3 R_BR lw_g (some .int)) (hK : va_K (dC, dI) vwCl [(cB, .byte), (cI, .int), (cJ, .long)] s) (hA : ∀ q, s.heap.size ≤ q → A q) (x1 : Int32) (x2 : Int32) (b_at : Int32) (b_end : Int32) (b_start : Int32) (b_most : Int32) (b_dist : Int32) (b_place : Int32)  (hf : j_BR_fault_0 x1 x2  = some (r_z, b_place_z)) (hP : va_P (dC, dI) vwCl (wd_BR_fault br i h t cB cI cJ b_at b_end b_start b_most b_dist b_place) H) (hD : va_D A (wd_BR_fault br i h t cB cI cJ b_at b_end b_start b_most b_dist b_place)) (hS : va_S A s.heap H locs) (hl : lv_has ls 3 [(0, .ref br), (1, .int x1), (2, .int x2)]) : W p l e rm_BR_fault s m args below meth c H locs 0 0 (MQ below (sQi (dC, dI) vwCl [(cB, .byte), (cI, .int), (cJ, .long)] A r_z (wd_BR_fault br i h t cB cI cJ b_at b_end b_start b_most b_dist b_place_z)) args s 0 0 A) (F0 m 0 ls []) := by
  obtain ⟨hx, hb, hml, hown, hts, hr, hlocks, hZ⟩ := id C
  unfold j_BR_fault_0 at hf
  refine lv_aload_n hx hb d_BR_fault_0 rfl (lv_at hl 0 rfl) ?_
  refine lv_iload_n hx hb d_BR_fault_1 rfl (lv_at hl 2 rfl) ?_
  refine va_put (D := (dC, dI)) (ci := 5) (v := .int x2) (ty := .int) (C := R_BR) (T := T_BR) (N := 9) hx hb hts w_218 ty_BR ty_BR_ok nm_BR hown hK hP hD hS 0 rfl rfl 8 (by decide) (hts _ w_219) (fun _ h9 => h9) rfl (by decide +kernel) rfl rfl (Nat.le_of_ble_eq_true rfl) d_BR_fault_2 (fun H locs hP hD hS => ?_)
  have hP : va_P (dC, dI) vwCl (wd_BR_fault br i h t cB cI cJ b_at b_end b_start b_most b_dist x2) H := hP
  have hD : va_D A (wd_BR_fault br i h t cB cI cJ b_at b_end b_start b_most b_dist x2) := hD
  refine lv_iload_n hx hb d_BR_fault_5 rfl (lv_at hl 1 rfl) ?_
  cases hf
  exact s_iret hx hb hr hlocks hP hK hD hS d_BR_fault_6
end
noncomputable abbrev f_BR_fault (x1 : Int32) (x2 : Int32) : Option (Int32 × Int32) := j_BR_fault_0 x1 x2
set_option maxRecDepth 100000 in
theorem c_BR_fault (l : Launch) (dC : Nat → ClassId) (dI : Nat → Nat → Nat) (cB cI cJ : ClassId) (br i h t : Nat) (b_at : Int32) (b_end : Int32) (b_start : Int32) (b_most : Int32) (b_dist : Int32) (b_place : Int32) (x1 : Int32) (x2 : Int32) {r_z : Int32} {b_place_z : Int32} (hf : f_BR_fault x1 x2 = some (r_z, b_place_z)) : MetI l y_BR_fault ws_BR_fault rm_BR_fault (dC, dI) vwCl [(cB, .byte), (cI, .int), (cJ, .long)] [.ref br, .int x1, .int x2] (wd_BR_fault br i h t cB cI cJ b_at b_end b_start b_most b_dist b_place) r_z (wd_BR_fault br i h t cB cI cJ b_at b_end b_start b_most b_dist b_place_z) 0 0 :=
  s_ofi (bytes := cd_BR_fault) (maxL := 3) (ret := (some .int)) (by decide) rfl (Nat.le_of_ble_eq_true rfl) (fun p e s m below meth c A ls C hK hA hP hD hS hl => k_BR_fault_0 C hK hA x1 x2 b_at b_end b_start b_most b_dist b_place hf hP hD hS (lv_sub hl [0, 1, 2] rfl))

abbrev wd_BR_grown (br i ia h t : Nat) (cB cI cJ : ClassId) (b_at : Int32) (b_end : Int32) (b_start : Int32) (b_most : Int32) (b_dist : Int32) (b_place : Int32) (in : Int32) (if : Nat → Int32) : va_W := [(br, .inr (5, [.ref i, .ref h, .ref t, .int b_at, .int b_end, .int b_start, .int b_most, .int b_dist, .int b_place])), (i, .inr (1, [.ref ia, .int in])), (ia, .inl (cB, 8000, .inl if))]
abbrev rm_BR_grown : Room := { frames := 1, cells := 0, slots := 0, locals := 21 }
section
variable {p : Program} {l : Launch} {e : Env} {s : State} {m : MethodId} {args : Array Value} {below : List Frame} {meth : Method} {c : Code} {dC : Nat → ClassId} {dI : Nat → Nat → Nat} {A : Nat → Prop} {cB cI cJ : ClassId} {H : Heap} {locs : List Loc} {ls : Array Slot} {N : Nat} {br i ia h t : Nat}
noncomputable def b_BR_grown_10 (b_end : Int32) (in : Int32) (if : Nat → Int32)  (kh10 : Int32 → Int32 → Option (Int32 × Int32)) (x2 : Int32) (b_at : Int32) : Option (Int32 × Int32) :=
  (if b_end ≤ b_at then (some ((-1 : Int32), b_at) : Option (Int32 × Int32)) else bd1 (f_Row_get 8000 b_at in if) (fun r29 => (if r29 = (255 : Int32) then (kh10 (x2 + r29) (b_at + (1 : Int32))) else (some ((x2 + r29), (b_at + (1 : Int32))) : Option (Int32 × Int32)))))
set_option maxHeartbeats 4000000 in
set_option maxRecDepth 100000 in
theorem k_BR_grown_10 {r_z : Int32} {b_at_z : Int32} (C : Fx p s m args meth c cd_BR_grown 4 R_BR lw_g (some .int)) (hK : va_K (dC, dI) vwCl [(cB, .byte), (cI, .int), (cJ, .long)] s) (hA : ∀ q, s.heap.size ≤ q → A q) (b_end : Int32) (b_start : Int32) (b_most : Int32) (b_dist : Int32) (b_place : Int32) (in : Int32) (if : Nat → Int32)  : ∀ (n : Nat) (x2 : Int32) (b_at : Int32), loop2 (b_BR_grown_10 b_end in if ) n x2 b_at = some (r_z, b_at_z) → ∀ (H : Heap) (locs : List Loc), va_P (dC, dI) vwCl (wd_BR_grown br i ia h t cB cI cJ b_at b_end b_start b_most b_dist b_place in if) H → va_D A (wd_BR_grown br i ia h t cB cI cJ b_at b_end b_start b_most b_dist b_place in if) → va_S A s.heap H locs → ∀ (ls : Array Slot), lv_has ls 4 [(0, .ref br), (2, .int x2)] → W p l e rm_BR_grown s m args below meth c H locs 0 0 (MQ below (sQi (dC, dI) vwCl [(cB, .byte), (cI, .int), (cJ, .long)] A r_z (wd_BR_grown br i ia h t cB cI cJ b_at_z b_end b_start b_most b_dist b_place in if)) args s 0 0 A) (F0 m 10 ls []) := by
  obtain ⟨hx, hb, hml, hown, hts, hr, hlocks, hZ⟩ := id C
  intro n
  induction n with
  | zero => intro x2 b_at hf; cases hf
  | succ n ih10 =>
    intro x2 b_at hf H locs hP hD hS ls hl
    have hf : b_BR_grown_10 b_end in if  (loop2 (b_BR_grown_10 b_end in if ) n) x2 b_at = some (r_z, b_at_z) := hf
    generalize loop2 (b_BR_grown_10 b_end in if ) n = kh10 at hf ih10
    unfold b_BR_grown_10 at hf
    refine lv_aload_n hx hb d_BR_grown_10 rfl (lv_at hl 0 rfl) ?_
    refine va_get (D := (dC, dI)) (ci := 5) (v := .int b_at) (C := R_BR) (T := T_BR) (N := 9) hx hb hts w_218 hown hK hP 0 rfl rfl 3 (by decide) (hts _ w_220) (fun _ h9 => h9) rfl d_BR_grown_11 ?_
    refine lv_aload_n hx hb d_BR_grown_14 rfl (lv_at hl 0 rfl) ?_
    refine va_get (D := (dC, dI)) (ci := 5) (v := .int b_end) (C := R_BR) (T := T_BR) (N := 9) hx hb hts w_218 hown hK hP 0 rfl rfl 4 (by decide) (hts _ w_221) (fun _ h9 => h9) rfl d_BR_grown_15 ?_
    refine lv_icmp_ge (tgt := 69) hx hb d_BR_grown_18 (by decide) (fun c_18 => ?_) (fun c_18 => ?_)
    · have hf := br_pos c_18 hf
      refine lv_iconst (v := -1) hx hb d_BR_grown_69 (by decide) ?_
      cases hf
      exact s_iret hx hb hr hlocks hP hK hD hS d_BR_grown_70
    · have hf := br_neg c_18 hf
      refine lv_aload_n hx hb d_BR_grown_21 rfl (lv_at hl 0 rfl) ?_
      refine va_get (D := (dC, dI)) (ci := 5) (v := .ref i) (C := R_BR) (T := T_BR) (N := 9) hx hb hts w_218 hown hK hP 0 rfl rfl 0 (by decide) (hts _ w_222) (fun _ h9 => h9) rfl d_BR_grown_22 ?_
      refine lv_aload_n hx hb d_BR_grown_25 rfl (lv_at hl 0 rfl) ?_
      refine va_get (D := (dC, dI)) (ci := 5) (v := .int b_at) (C := R_BR) (T := T_BR) (N := 9) hx hb hts w_218 hown hK hP 0 rfl rfl 3 (by decide) (hts _ w_220) (fun _ h9 => h9) rfl d_BR_grown_26 ?_
      obtain ⟨r29, hc29, hf⟩ := bd1_some hf
      refine s_Vi (As := [.int b_at]) (rest := []) (wr := [(br, .inr (5, [.ref i, .ref h, .ref t, .int b_at, .int b_end, .int b_start, .int b_most, .int b_dist, .int b_place]))]) (ws' := wd_BR_grown br i ia h t cB cI cJ b_at b_end b_start b_most b_dist b_place in if) C.call (c_Row_get l dC dI cB cI cJ i ia 8000 in if b_at hc29) (cwV 1 hts (gd_V w_223 w_72 w_73 w_12 w_74) rfl rfl rfl ⟨rfl, hd_Row_get⟩ ⟨Nat.le_of_ble_eq_true rfl, Nat.le_of_ble_eq_true rfl⟩) rfl hl.1 rfl (Nat.le_of_ble_eq_true rfl) d_BR_grown_29 ⟨Nat.le_of_ble_eq_true rfl, Nat.le_of_ble_eq_true rfl⟩ hZ hK hP hD hS hA 1 1 rfl rfl [1, 2] [0] [0, 1, 2] rfl rfl rfl rfl (by decide) rfl rfl (fun H locs hP hD hS => ?_)
      refine lv_istore_n (lv' := [(3, .int r29), (0, .ref br), (2, .int x2)]) hx hb d_BR_grown_32 rfl hl (by decide) rfl (fun ls hl => ?_)
      refine lv_iload_n hx hb d_BR_grown_33 rfl (lv_at hl 2 rfl) ?_
      refine lv_iload_n hx hb d_BR_grown_34 rfl (lv_at hl 0 rfl) ?_
      refine lv_iadd hx hb d_BR_grown_35 ?_
      refine lv_istore_n (lv' := [(2, .int (x2 + r29)), (3, .int r29), (0, .ref br)]) hx hb d_BR_grown_36 rfl hl (by decide) rfl (fun ls hl => ?_)
      refine lv_iload_n hx hb d_BR_grown_37 rfl (lv_at hl 1 rfl) ?_
      refine lv_sipush (v := 255) hx hb d_BR_grown_38 (by decide) ?_
      refine lv_icmp_eq (tgt := 56) hx hb d_BR_grown_41 (by decide) (fun c_41 => ?_) (fun c_41 => ?_)
      · have hf := br_pos c_41 hf
        refine lv_aload_n hx hb d_BR_grown_56 rfl (lv_at hl 2 rfl) ?_
        refine lv_dup hx hb d_BR_grown_57 rfl ?_
        refine va_get (D := (dC, dI)) (ci := 5) (v := .int b_at) (C := R_BR) (T := T_BR) (N := 9) hx hb hts w_218 hown hK hP 0 rfl rfl 3 (by decide) (hts _ w_220) (fun _ h9 => h9) rfl d_BR_grown_58 ?_
        refine lv_iconst (v := 1) hx hb d_BR_grown_61 (by decide) ?_
        refine lv_iadd hx hb d_BR_grown_62 ?_
        refine va_put (D := (dC, dI)) (ci := 5) (v := .int (b_at + (1 : Int32))) (ty := .int) (C := R_BR) (T := T_BR) (N := 9) hx hb hts w_218 ty_BR ty_BR_ok nm_BR hown hK hP hD hS 0 rfl rfl 3 (by decide) (hts _ w_220) (fun _ h9 => h9) rfl (by decide +kernel) rfl rfl (Nat.le_of_ble_eq_true rfl) d_BR_grown_63 (fun H locs hP hD hS => ?_)
        have hP : va_P (dC, dI) vwCl (wd_BR_grown br i ia h t cB cI cJ (b_at + (1 : Int32)) b_end b_start b_most b_dist b_place in if) H := hP
        have hD : va_D A (wd_BR_grown br i ia h t cB cI cJ (b_at + (1 : Int32)) b_end b_start b_most b_dist b_place in if) := hD
        refine lv_goto (tgt := 10) hx hb d_BR_grown_66 (by decide) ?_
        exact ih10 (x2 + r29) (b_at + (1 : Int32)) hf _ _ hP hD hS _ (lv_sub hl [2, 0] rfl)
      · have hf := br_neg c_41 hf
        refine lv_aload_n hx hb d_BR_grown_44 rfl (lv_at hl 2 rfl) ?_
        refine lv_dup hx hb d_BR_grown_45 rfl ?_
        refine va_get (D := (dC, dI)) (ci := 5) (v := .int b_at) (C := R_BR) (T := T_BR) (N := 9) hx hb hts w_218 hown hK hP 0 rfl rfl 3 (by decide) (hts _ w_220) (fun _ h9 => h9) rfl d_BR_grown_46 ?_
        refine lv_iconst (v := 1) hx hb d_BR_grown_49 (by decide) ?_
        refine lv_iadd hx hb d_BR_grown_50 ?_
        refine va_put (D := (dC, dI)) (ci := 5) (v := .int (b_at + (1 : Int32))) (ty := .int) (C := R_BR) (T := T_BR) (N := 9) hx hb hts w_218 ty_BR ty_BR_ok nm_BR hown hK hP hD hS 0 rfl rfl 3 (by decide) (hts _ w_220) (fun _ h9 => h9) rfl (by decide +kernel) rfl rfl (Nat.le_of_ble_eq_true rfl) d_BR_grown_51 (fun H locs hP hD hS => ?_)
        have hP : va_P (dC, dI) vwCl (wd_BR_grown br i ia h t cB cI cJ (b_at + (1 : Int32)) b_end b_start b_most b_dist b_place in if) H := hP
        have hD : va_D A (wd_BR_grown br i ia h t cB cI cJ (b_at + (1 : Int32)) b_end b_start b_most b_dist b_place in if) := hD
        refine lv_iload_n hx hb d_BR_grown_54 rfl (lv_at hl 0 rfl) ?_
        cases hf
        exact s_iret hx hb hr hlocks hP hK hD hS d_BR_grown_55
noncomputable def j_BR_grown_0 (N : Nat) (x1 : Int32) (b_at : Int32) (b_end : Int32) (in : Int32) (if : Nat → Int32)  : Option (Int32 × Int32) :=
  (if (15 : Int32) ≤ x1 then (loop2 (b_BR_grown_10 b_end in if ) N x1 b_at) else (some (x1, b_at) : Option (Int32 × Int32)))
set_option maxHeartbeats 4000000 in
set_option maxRecDepth 100000 in
theorem k_BR_grown_0 {r_z : Int32} {b_at_z : Int32} (C : Fx p s m args meth c cd_BR_grown 4 R_BR lw_g (some .int)) (hK : va_K (dC, dI) vwCl [(cB, .byte), (cI, .int), (cJ, .long)] s) (hA : ∀ q, s.heap.size ≤ q → A q) (x1 : Int32) (b_at : Int32) (b_end : Int32) (b_start : Int32) (b_most : Int32) (b_dist : Int32) (b_place : Int32) (in : Int32) (if : Nat → Int32)  (hf : j_BR_grown_0 N x1 b_at b_end in if  = some (r_z, b_at_z)) (hP : va_P (dC, dI) vwCl (wd_BR_grown br i ia h t cB cI cJ b_at b_end b_start b_most b_dist b_place in if) H) (hD : va_D A (wd_BR_grown br i ia h t cB cI cJ b_at b_end b_start b_most b_dist b_place in if)) (hS : va_S A s.heap H locs) (hl : lv_has ls 4 [(0, .ref br), (1, .int x1)]) : W p l e rm_BR_grown s m args below meth c H locs 0 0 (MQ below (sQi (dC, dI) vwCl [(cB, .byte), (cI, .int), (cJ, .long)] A r_z (wd_BR_grown br i ia h t cB cI cJ b_at_z b_end b_start b_most b_dist b_place in if)) args s 0 0 A) (F0 m 0 ls []) := by
  obtain ⟨hx, hb, hml, hown, hts, hr, hlocks, hZ⟩ := id C
  unfold j_BR_grown_0 at hf
  refine lv_iload_n hx hb d_BR_grown_0 rfl (lv_at hl 1 rfl) ?_
  refine lv_bipush (v := 15) hx hb d_BR_grown_1 (by decide) ?_
  refine lv_icmp_ge (tgt := 8) hx hb d_BR_grown_3 (by decide) (fun c_3 => ?_) (fun c_3 => ?_)
  · have hf := br_pos c_3 hf
    refine lv_iload_n hx hb d_BR_grown_8 rfl (lv_at hl 1 rfl) ?_
    refine lv_istore_n (lv' := [(2, .int x1), (0, .ref br), (1, .int x1)]) hx hb d_BR_grown_9 rfl hl (by decide) rfl (fun ls hl => ?_)
    exact k_BR_grown_10 C hK hA b_end b_start b_most b_dist b_place in if  N x1 b_at hf _ _ hP hD hS _ (lv_sub hl [1, 0] rfl)
  · have hf := br_neg c_3 hf
    refine lv_iload_n hx hb d_BR_grown_6 rfl (lv_at hl 1 rfl) ?_
    cases hf
    exact s_iret hx hb hr hlocks hP hK hD hS d_BR_grown_7
end
noncomputable abbrev f_BR_grown (N : Nat) (x1 : Int32) (b_at : Int32) (b_end : Int32) (in : Int32) (if : Nat → Int32) : Option (Int32 × Int32) := j_BR_grown_0 N x1 b_at b_end in if
set_option maxRecDepth 100000 in
theorem c_BR_grown {N : Nat} (l : Launch) (dC : Nat → ClassId) (dI : Nat → Nat → Nat) (cB cI cJ : ClassId) (br i ia h t : Nat) (b_at : Int32) (b_end : Int32) (b_start : Int32) (b_most : Int32) (b_dist : Int32) (b_place : Int32) (in : Int32) (if : Nat → Int32) (x1 : Int32) {r_z : Int32} {b_at_z : Int32} (hf : f_BR_grown N x1 b_at b_end in if = some (r_z, b_at_z)) : MetI l y_BR_grown ws_BR_grown rm_BR_grown (dC, dI) vwCl [(cB, .byte), (cI, .int), (cJ, .long)] [.ref br, .int x1] (wd_BR_grown br i ia h t cB cI cJ b_at b_end b_start b_most b_dist b_place in if) r_z (wd_BR_grown br i ia h t cB cI cJ b_at_z b_end b_start b_most b_dist b_place in if) 0 0 :=
  s_ofi (bytes := cd_BR_grown) (maxL := 4) (ret := (some .int)) (by decide) rfl (Nat.le_of_ble_eq_true rfl) (fun p e s m below meth c A ls C hK hA hP hD hS hl => k_BR_grown_0 C hK hA x1 b_at b_end b_start b_most b_dist b_place in if hf hP hD hS (lv_sub hl [0, 1] rfl))

abbrev wd_BR_takeCopy (br h ha t ta i : Nat) (cB cI cJ : ClassId) (b_at : Int32) (b_end : Int32) (b_start : Int32) (b_most : Int32) (b_dist : Int32) (b_place : Int32) (hn : Int32) (hf : Nat → Int32) (tn : Int32) (tf : Nat → Int32) : va_W := [(br, .inr (5, [.ref i, .ref h, .ref t, .int b_at, .int b_end, .int b_start, .int b_most, .int b_dist, .int b_place])), (h, .inr (1, [.ref ha, .int hn])), (ha, .inl (cB, 8000, .inl hf)), (t, .inr (1, [.ref ta, .int tn])), (ta, .inl (cB, 8000, .inl tf))]
abbrev rm_BR_takeCopy : Room := { frames := 1, cells := 0, slots := 0, locals := 22 }
section
variable {p : Program} {l : Launch} {e : Env} {s : State} {m : MethodId} {args : Array Value} {below : List Frame} {meth : Method} {c : Code} {dC : Nat → ClassId} {dI : Nat → Nat → Nat} {A : Nat → Prop} {cB cI cJ : ClassId} {H : Heap} {locs : List Loc} {ls : Array Slot} {N : Nat} {br h ha t ta i : Nat}
noncomputable def j_BR_takeCopy_111 (x4 : Int32) (t0 : Int32) (tn : Int32) (tf : Nat → Int32) (kh44 : Int32 → Int32 → (Nat → Int32) → Option (Int32 × Int32 × Int32 × (Nat → Int32))) : Option (Int32 × Int32 × Int32 × (Nat → Int32)) :=
  bd3 (f_Row_add 8000 t0 tn tf) (fun r111 tn_111 tf_111 => (kh44 (x4 + 1) tn_111 tf_111))
set_option maxHeartbeats 4000000 in
set_option maxRecDepth 100000 in
theorem k_BR_takeCopy_111 {r_z : Int32} {b_place_z : Int32} {tn_z : Int32} {tf_z : Nat → Int32} (C : Fx p s m args meth c cd_BR_takeCopy 6 R_BR lw_g (some .int)) (hK : va_K (dC, dI) vwCl [(cB, .byte), (cI, .int), (cJ, .long)] s) (hA : ∀ q, s.heap.size ≤ q → A q) (x3 : Int32) (x4 : Int32) (t0 : Int32) (b_at : Int32) (b_end : Int32) (b_start : Int32) (b_most : Int32) (b_dist : Int32) (b_place : Int32) (hn : Int32) (hf : Nat → Int32) (tn : Int32) (tf : Nat → Int32) (kh44 : Int32 → Int32 → (Nat → Int32) → Option (Int32 × Int32 × Int32 × (Nat → Int32))) (ih44 : ∀ (x4 : Int32) (tn : Int32) (tf : Nat → Int32), kh44 x4 tn tf = some (r_z, b_place_z, tn_z, tf_z) → ∀ (H : Heap) (locs : List Loc), va_P (dC, dI) vwCl (wd_BR_takeCopy br h ha t ta i cB cI cJ b_at b_end b_start b_most b_dist b_place hn hf tn tf) H → va_D A (wd_BR_takeCopy br h ha t ta i cB cI cJ b_at b_end b_start b_most b_dist b_place hn hf tn tf) → va_S A s.heap H locs → ∀ (ls : Array Slot), lv_has ls 6 [(0, .ref br), (3, .int x3), (4, .int x4)] → W p l e rm_BR_takeCopy s m args below meth c H locs 0 0 (MQ below (sQi (dC, dI) vwCl [(cB, .byte), (cI, .int), (cJ, .long)] A r_z (wd_BR_takeCopy br h ha t ta i cB cI cJ b_at b_end b_start b_most b_dist b_place_z hn hf tn_z tf_z)) args s 0 0 A) (F0 m 44 ls [])) (hf : j_BR_takeCopy_111 x4 t0 tn tf kh44 = some (r_z, b_place_z, tn_z, tf_z)) (hP : va_P (dC, dI) vwCl (wd_BR_takeCopy br h ha t ta i cB cI cJ b_at b_end b_start b_most b_dist b_place hn hf tn tf) H) (hD : va_D A (wd_BR_takeCopy br h ha t ta i cB cI cJ b_at b_end b_start b_most b_dist b_place hn hf tn tf)) (hS : va_S A s.heap H locs) (hl : lv_has ls 6 [(0, .ref br), (3, .int x3), (4, .int x4)]) : W p l e rm_BR_takeCopy s m args below meth c H locs 0 0 (MQ below (sQi (dC, dI) vwCl [(cB, .byte), (cI, .int), (cJ, .long)] A r_z (wd_BR_takeCopy br h ha t ta i cB cI cJ b_at b_end b_start b_most b_dist b_place_z hn hf tn_z tf_z)) args s 0 0 A) (F0 m 111 ls [.int t0, .ref t]) := by
  obtain ⟨hx, hb, hml, hown, hts, hr, hlocks, hZ⟩ := id C
  unfold j_BR_takeCopy_111 at hf
  obtain ⟨r111, tn_111, tf_111, hc111, hf⟩ := bd3_some hf
  refine s_Vi (As := [.int t0]) (rest := []) (wr := [(br, .inr (5, [.ref i, .ref h, .ref t, .int b_at, .int b_end, .int b_start, .int b_most, .int b_dist, .int b_place])), (h, .inr (1, [.ref ha, .int hn])), (ha, .inl (cB, 8000, .inl hf))]) (ws' := wd_BR_takeCopy br h ha t ta i cB cI cJ b_at b_end b_start b_most b_dist b_place hn hf tn_111 tf_111) C.call (c_Row_add l dC dI cB cI cJ t ta 8000 tn tf t0 hc111) (cwV 1 hts (gd_V w_230 w_41 w_42 w_12 w_43) rfl rfl rfl ⟨rfl, hd_Row_add⟩ ⟨Nat.le_of_ble_eq_true rfl, Nat.le_of_ble_eq_true rfl⟩) rfl hl.1 rfl (Nat.le_of_ble_eq_true rfl) d_BR_takeCopy_111 ⟨Nat.le_of_ble_eq_true rfl, Nat.le_of_ble_eq_true rfl⟩ hZ hK hP hD hS hA 1 3 rfl rfl [3, 4] [0, 1, 2] [0, 1, 2, 3, 4] rfl rfl rfl rfl (by decide) rfl rfl (fun H locs hP hD hS => ?_)
  refine lv_pop hx hb d_BR_takeCopy_114 rfl ?_
  refine lv_iinc (v := (x4 + 1)) (lv' := [(4, .int (x4 + 1)), (0, .ref br), (3, .int x3)]) hx hb d_BR_takeCopy_115 hl (k := 2) rfl (congrArg (fun z => x4 + z) (by decide)) (by decide) rfl (fun ls hl => ?_)
  refine lv_goto (tgt := 44) hx hb d_BR_takeCopy_118 (by decide) ?_
  exact ih44 (x4 + 1) tn_111 tf_111 hf _ _ hP hD hS _ (lv_sub hl [1, 2, 0] rfl)
noncomputable def b_BR_takeCopy_44 (x3 : Int32) (b_start : Int32) (b_dist : Int32) (b_place : Int32) (hn : Int32) (hf : Nat → Int32)  (kh44 : Int32 → Int32 → (Nat → Int32) → Option (Int32 × Int32 × Int32 × (Nat → Int32))) (x4 : Int32) (tn : Int32) (tf : Nat → Int32) : Option (Int32 × Int32 × Int32 × (Nat → Int32)) :=
  (if x3 ≤ x4 then (some ((0 : Int32), b_place, tn, tf) : Option (Int32 × Int32 × Int32 × (Nat → Int32))) else bd1 (f_Row_count tn) (fun r54 => (if (r54 - b_dist) < b_start then bd1 (f_Row_count hn) (fun r97 => bd1 (f_Row_get 8000 ((r97 + (r54 - b_dist)) - b_start) hn hf) (fun r108 => (j_BR_takeCopy_111 x4 r108 tn tf kh44))) else bd1 (f_Row_get 8000 (r54 - b_dist) tn tf) (fun r83 => (j_BR_takeCopy_111 x4 r83 tn tf kh44)))))
set_option maxHeartbeats 4000000 in
set_option maxRecDepth 100000 in
theorem k_BR_takeCopy_44 {r_z : Int32} {b_place_z : Int32} {tn_z : Int32} {tf_z : Nat → Int32} (C : Fx p s m args meth c cd_BR_takeCopy 6 R_BR lw_g (some .int)) (hK : va_K (dC, dI) vwCl [(cB, .byte), (cI, .int), (cJ, .long)] s) (hA : ∀ q, s.heap.size ≤ q → A q) (x3 : Int32) (b_at : Int32) (b_end : Int32) (b_start : Int32) (b_most : Int32) (b_dist : Int32) (b_place : Int32) (hn : Int32) (hf : Nat → Int32)  : ∀ (n : Nat) (x4 : Int32) (tn : Int32) (tf : Nat → Int32), loop3 (b_BR_takeCopy_44 x3 b_start b_dist b_place hn hf ) n x4 tn tf = some (r_z, b_place_z, tn_z, tf_z) → ∀ (H : Heap) (locs : List Loc), va_P (dC, dI) vwCl (wd_BR_takeCopy br h ha t ta i cB cI cJ b_at b_end b_start b_most b_dist b_place hn hf tn tf) H → va_D A (wd_BR_takeCopy br h ha t ta i cB cI cJ b_at b_end b_start b_most b_dist b_place hn hf tn tf) → va_S A s.heap H locs → ∀ (ls : Array Slot), lv_has ls 6 [(0, .ref br), (3, .int x3), (4, .int x4)] → W p l e rm_BR_takeCopy s m args below meth c H locs 0 0 (MQ below (sQi (dC, dI) vwCl [(cB, .byte), (cI, .int), (cJ, .long)] A r_z (wd_BR_takeCopy br h ha t ta i cB cI cJ b_at b_end b_start b_most b_dist b_place_z hn hf tn_z tf_z)) args s 0 0 A) (F0 m 44 ls []) := by
  obtain ⟨hx, hb, hml, hown, hts, hr, hlocks, hZ⟩ := id C
  intro n
  induction n with
  | zero => intro x4 tn tf hf; cases hf
  | succ n ih44 =>
    intro x4 tn tf hf H locs hP hD hS ls hl
    have hf : b_BR_takeCopy_44 x3 b_start b_dist b_place hn hf  (loop3 (b_BR_takeCopy_44 x3 b_start b_dist b_place hn hf ) n) x4 tn tf = some (r_z, b_place_z, tn_z, tf_z) := hf
    generalize loop3 (b_BR_takeCopy_44 x3 b_start b_dist b_place hn hf ) n = kh44 at hf ih44
    unfold b_BR_takeCopy_44 at hf
    refine lv_iload hx hb d_BR_takeCopy_44 (lv_at hl 2 rfl) ?_
    refine lv_iload_n hx hb d_BR_takeCopy_46 rfl (lv_at hl 1 rfl) ?_
    refine lv_icmp_ge (tgt := 121) hx hb d_BR_takeCopy_47 (by decide) (fun c_47 => ?_) (fun c_47 => ?_)
    · have hf := br_pos c_47 hf
      refine lv_iconst (v := 0) hx hb d_BR_takeCopy_121 (by decide) ?_
      cases hf
      exact s_iret hx hb hr hlocks hP hK hD hS d_BR_takeCopy_122
    · have hf := br_neg c_47 hf
      refine lv_aload_n hx hb d_BR_takeCopy_50 rfl (lv_at hl 0 rfl) ?_
      refine va_get (D := (dC, dI)) (ci := 5) (v := .ref t) (C := R_BR) (T := T_BR) (N := 9) hx hb hts w_218 hown hK hP 0 rfl rfl 2 (by decide) (hts _ w_225) (fun _ h9 => h9) rfl d_BR_takeCopy_51 ?_
      obtain ⟨r54, hc54, hf⟩ := bd1_some hf
      refine s_Vi (As := []) (rest := []) (wr := [(br, .inr (5, [.ref i, .ref h, .ref t, .int b_at, .int b_end, .int b_start, .int b_most, .int b_dist, .int b_place])), (h, .inr (1, [.ref ha, .int hn])), (ha, .inl (cB, 8000, .inl hf)), (ta, .inl (cB, 8000, .inl tf))]) (ws' := wd_BR_takeCopy br h ha t ta i cB cI cJ b_at b_end b_start b_most b_dist b_place hn hf tn tf) C.call (c_Row_count l dC dI cB cI cJ t ta  tn  hc54) (cwV 0 hts (gd_V w_226 w_10 w_11 w_12 w_13) rfl rfl rfl ⟨rfl, hd_Row_count⟩ ⟨Nat.le_of_ble_eq_true rfl, Nat.le_of_ble_eq_true rfl⟩) rfl hl.1 rfl (Nat.le_of_ble_eq_true rfl) d_BR_takeCopy_54 ⟨Nat.le_of_ble_eq_true rfl, Nat.le_of_ble_eq_true rfl⟩ hZ hK hP hD hS hA 1 3 rfl rfl [3] [0, 1, 2, 4] [0, 1, 2, 4, 3] rfl rfl rfl rfl (by decide) rfl rfl (fun H locs hP hD hS => ?_)
      refine lv_aload_n hx hb d_BR_takeCopy_57 rfl (lv_at hl 0 rfl) ?_
      refine va_get (D := (dC, dI)) (ci := 5) (v := .int b_dist) (C := R_BR) (T := T_BR) (N := 9) hx hb hts w_218 hown hK hP 0 rfl rfl 7 (by decide) (hts _ w_227) (fun _ h9 => h9) rfl d_BR_takeCopy_58 ?_
      refine lv_isub hx hb d_BR_takeCopy_61 ?_
      refine lv_istore (lv' := [(5, .int (r54 - b_dist)), (0, .ref br), (3, .int x3), (4, .int x4)]) hx hb d_BR_takeCopy_62 hl (by decide) rfl (fun ls hl => ?_)
      refine lv_aload_n hx hb d_BR_takeCopy_64 rfl (lv_at hl 1 rfl) ?_
      refine va_get (D := (dC, dI)) (ci := 5) (v := .ref t) (C := R_BR) (T := T_BR) (N := 9) hx hb hts w_218 hown hK hP 0 rfl rfl 2 (by decide) (hts _ w_225) (fun _ h9 => h9) rfl d_BR_takeCopy_65 ?_
      refine lv_iload hx hb d_BR_takeCopy_68 (lv_at hl 0 rfl) ?_
      refine lv_aload_n hx hb d_BR_takeCopy_70 rfl (lv_at hl 1 rfl) ?_
      refine va_get (D := (dC, dI)) (ci := 5) (v := .int b_start) (C := R_BR) (T := T_BR) (N := 9) hx hb hts w_218 hown hK hP 0 rfl rfl 5 (by decide) (hts _ w_228) (fun _ h9 => h9) rfl d_BR_takeCopy_71 ?_
      refine lv_icmp_lt (tgt := 89) hx hb d_BR_takeCopy_74 (by decide) (fun c_74 => ?_) (fun c_74 => ?_)
      · have hf := br_pos c_74 hf
        refine lv_aload_n hx hb d_BR_takeCopy_89 rfl (lv_at hl 1 rfl) ?_
        refine va_get (D := (dC, dI)) (ci := 5) (v := .ref h) (C := R_BR) (T := T_BR) (N := 9) hx hb hts w_218 hown hK hP 0 rfl rfl 1 (by decide) (hts _ w_229) (fun _ h9 => h9) rfl d_BR_takeCopy_90 ?_
        refine lv_aload_n hx hb d_BR_takeCopy_93 rfl (lv_at hl 1 rfl) ?_
        refine va_get (D := (dC, dI)) (ci := 5) (v := .ref h) (C := R_BR) (T := T_BR) (N := 9) hx hb hts w_218 hown hK hP 0 rfl rfl 1 (by decide) (hts _ w_229) (fun _ h9 => h9) rfl d_BR_takeCopy_94 ?_
        obtain ⟨r97, hc97, hf⟩ := bd1_some hf
        refine s_Vi (As := []) (rest := [.ref h, .ref t]) (wr := [(br, .inr (5, [.ref i, .ref h, .ref t, .int b_at, .int b_end, .int b_start, .int b_most, .int b_dist, .int b_place])), (ha, .inl (cB, 8000, .inl hf)), (t, .inr (1, [.ref ta, .int tn])), (ta, .inl (cB, 8000, .inl tf))]) (ws' := wd_BR_takeCopy br h ha t ta i cB cI cJ b_at b_end b_start b_most b_dist b_place hn hf tn tf) C.call (c_Row_count l dC dI cB cI cJ h ha  hn  hc97) (cwV 0 hts (gd_V w_226 w_10 w_11 w_12 w_13) rfl rfl rfl ⟨rfl, hd_Row_count⟩ ⟨Nat.le_of_ble_eq_true rfl, Nat.le_of_ble_eq_true rfl⟩) rfl hl.1 rfl (Nat.le_of_ble_eq_true rfl) d_BR_takeCopy_97 ⟨Nat.le_of_ble_eq_true rfl, Nat.le_of_ble_eq_true rfl⟩ hZ hK hP hD hS hA 1 1 rfl rfl [1] [0, 2, 3, 4] [0, 4, 1, 2, 3] rfl rfl rfl rfl (by decide) rfl rfl (fun H locs hP hD hS => ?_)
        refine lv_iload hx hb d_BR_takeCopy_100 (lv_at hl 0 rfl) ?_
        refine lv_iadd hx hb d_BR_takeCopy_102 ?_
        refine lv_aload_n hx hb d_BR_takeCopy_103 rfl (lv_at hl 1 rfl) ?_
        refine va_get (D := (dC, dI)) (ci := 5) (v := .int b_start) (C := R_BR) (T := T_BR) (N := 9) hx hb hts w_218 hown hK hP 0 rfl rfl 5 (by decide) (hts _ w_228) (fun _ h9 => h9) rfl d_BR_takeCopy_104 ?_
        refine lv_isub hx hb d_BR_takeCopy_107 ?_
        obtain ⟨r108, hc108, hf⟩ := bd1_some hf
        refine s_Vi (As := [.int ((r97 + (r54 - b_dist)) - b_start)]) (rest := [.ref t]) (wr := [(br, .inr (5, [.ref i, .ref h, .ref t, .int b_at, .int b_end, .int b_start, .int b_most, .int b_dist, .int b_place])), (t, .inr (1, [.ref ta, .int tn])), (ta, .inl (cB, 8000, .inl tf))]) (ws' := wd_BR_takeCopy br h ha t ta i cB cI cJ b_at b_end b_start b_most b_dist b_place hn hf tn tf) C.call (c_Row_get l dC dI cB cI cJ h ha 8000 hn hf ((r97 + (r54 - b_dist)) - b_start) hc108) (cwV 1 hts (gd_V w_223 w_72 w_73 w_12 w_74) rfl rfl rfl ⟨rfl, hd_Row_get⟩ ⟨Nat.le_of_ble_eq_true rfl, Nat.le_of_ble_eq_true rfl⟩) rfl hl.1 rfl (Nat.le_of_ble_eq_true rfl) d_BR_takeCopy_108 ⟨Nat.le_of_ble_eq_true rfl, Nat.le_of_ble_eq_true rfl⟩ hZ hK hP hD hS hA 1 1 rfl rfl [1, 2] [0, 3, 4] [0, 3, 4, 1, 2] rfl rfl rfl rfl (by decide) rfl rfl (fun H locs hP hD hS => ?_)
        exact k_BR_takeCopy_111 C hK hA x3 x4 r108 b_at b_end b_start b_most b_dist b_place hn hf tn tf kh44 ih44 hf hP hD hS (lv_sub hl [1, 2, 3] rfl)
      · have hf := br_neg c_74 hf
        refine lv_aload_n hx hb d_BR_takeCopy_77 rfl (lv_at hl 1 rfl) ?_
        refine va_get (D := (dC, dI)) (ci := 5) (v := .ref t) (C := R_BR) (T := T_BR) (N := 9) hx hb hts w_218 hown hK hP 0 rfl rfl 2 (by decide) (hts _ w_225) (fun _ h9 => h9) rfl d_BR_takeCopy_78 ?_
        refine lv_iload hx hb d_BR_takeCopy_81 (lv_at hl 0 rfl) ?_
        obtain ⟨r83, hc83, hf⟩ := bd1_some hf
        refine s_Vi (As := [.int (r54 - b_dist)]) (rest := [.ref t]) (wr := [(br, .inr (5, [.ref i, .ref h, .ref t, .int b_at, .int b_end, .int b_start, .int b_most, .int b_dist, .int b_place])), (h, .inr (1, [.ref ha, .int hn])), (ha, .inl (cB, 8000, .inl hf))]) (ws' := wd_BR_takeCopy br h ha t ta i cB cI cJ b_at b_end b_start b_most b_dist b_place hn hf tn tf) C.call (c_Row_get l dC dI cB cI cJ t ta 8000 tn tf (r54 - b_dist) hc83) (cwV 1 hts (gd_V w_223 w_72 w_73 w_12 w_74) rfl rfl rfl ⟨rfl, hd_Row_get⟩ ⟨Nat.le_of_ble_eq_true rfl, Nat.le_of_ble_eq_true rfl⟩) rfl hl.1 rfl (Nat.le_of_ble_eq_true rfl) d_BR_takeCopy_83 ⟨Nat.le_of_ble_eq_true rfl, Nat.le_of_ble_eq_true rfl⟩ hZ hK hP hD hS hA 1 3 rfl rfl [3, 4] [0, 1, 2] [0, 1, 2, 3, 4] rfl rfl rfl rfl (by decide) rfl rfl (fun H locs hP hD hS => ?_)
        refine lv_goto (tgt := 111) hx hb d_BR_takeCopy_86 (by decide) ?_
        exact k_BR_takeCopy_111 C hK hA x3 x4 r83 b_at b_end b_start b_most b_dist b_place hn hf tn tf kh44 ih44 hf hP hD hS (lv_sub hl [1, 2, 3] rfl)
noncomputable def j_BR_takeCopy_0 (N : Nat) (x1 : Int32) (x2 : Int32) (b_end : Int32) (b_start : Int32) (b_most : Int32) (b_dist : Int32) (b_place : Int32) (hn : Int32) (hf : Nat → Int32) (tn : Int32) (tf : Nat → Int32)  : Option (Int32 × Int32 × Int32 × (Nat → Int32)) :=
  (if 0 ≤ x1 then bd1 (f_Row_count tn) (fun r27 => (if (x1 + (4 : Int32)) ≤ (b_most - r27) then (loop3 (b_BR_takeCopy_44 (x1 + (4 : Int32)) b_start b_dist b_place hn hf ) N (0 : Int32) tn tf) else bd2 (f_BR_fault (3 : Int32) x2) (fun r37 b_place_37 => (some (r37, b_place_37, tn, tf) : Option (Int32 × Int32 × Int32 × (Nat → Int32)))))) else bd2 (f_BR_fault (1 : Int32) b_end) (fun r10 b_place_10 => (some (r10, b_place_10, tn, tf) : Option (Int32 × Int32 × Int32 × (Nat → Int32)))))
set_option maxHeartbeats 4000000 in
set_option maxRecDepth 100000 in
theorem k_BR_takeCopy_0 {r_z : Int32} {b_place_z : Int32} {tn_z : Int32} {tf_z : Nat → Int32} (C : Fx p s m args meth c cd_BR_takeCopy 6 R_BR lw_g (some .int)) (hK : va_K (dC, dI) vwCl [(cB, .byte), (cI, .int), (cJ, .long)] s) (hA : ∀ q, s.heap.size ≤ q → A q) (x1 : Int32) (x2 : Int32) (b_at : Int32) (b_end : Int32) (b_start : Int32) (b_most : Int32) (b_dist : Int32) (b_place : Int32) (hn : Int32) (hf : Nat → Int32) (tn : Int32) (tf : Nat → Int32)  (hf : j_BR_takeCopy_0 N x1 x2 b_end b_start b_most b_dist b_place hn hf tn tf  = some (r_z, b_place_z, tn_z, tf_z)) (hP : va_P (dC, dI) vwCl (wd_BR_takeCopy br h ha t ta i cB cI cJ b_at b_end b_start b_most b_dist b_place hn hf tn tf) H) (hD : va_D A (wd_BR_takeCopy br h ha t ta i cB cI cJ b_at b_end b_start b_most b_dist b_place hn hf tn tf)) (hS : va_S A s.heap H locs) (hl : lv_has ls 6 [(0, .ref br), (1, .int x1), (2, .int x2)]) : W p l e rm_BR_takeCopy s m args below meth c H locs 0 0 (MQ below (sQi (dC, dI) vwCl [(cB, .byte), (cI, .int), (cJ, .long)] A r_z (wd_BR_takeCopy br h ha t ta i cB cI cJ b_at b_end b_start b_most b_dist b_place_z hn hf tn_z tf_z)) args s 0 0 A) (F0 m 0 ls []) := by
  obtain ⟨hx, hb, hml, hown, hts, hr, hlocks, hZ⟩ := id C
  unfold j_BR_takeCopy_0 at hf
  refine lv_iload_n hx hb d_BR_takeCopy_0 rfl (lv_at hl 1 rfl) ?_
  refine lv_if_ge (tgt := 14) hx hb d_BR_takeCopy_1 (by decide) (fun c_1 => ?_) (fun c_1 => ?_)
  · have hf := br_pos c_1 hf
    refine lv_iload_n hx hb d_BR_takeCopy_14 rfl (lv_at hl 1 rfl) ?_
    refine lv_iconst (v := 4) hx hb d_BR_takeCopy_15 (by decide) ?_
    refine lv_iadd hx hb d_BR_takeCopy_16 ?_
    refine lv_istore_n (lv' := [(3, .int (x1 + (4 : Int32))), (0, .ref br), (1, .int x1), (2, .int x2)]) hx hb d_BR_takeCopy_17 rfl hl (by decide) rfl (fun ls hl => ?_)
    refine lv_iload_n hx hb d_BR_takeCopy_18 rfl (lv_at hl 0 rfl) ?_
    refine lv_aload_n hx hb d_BR_takeCopy_19 rfl (lv_at hl 1 rfl) ?_
    refine va_get (D := (dC, dI)) (ci := 5) (v := .int b_most) (C := R_BR) (T := T_BR) (N := 9) hx hb hts w_218 hown hK hP 0 rfl rfl 6 (by decide) (hts _ w_224) (fun _ h9 => h9) rfl d_BR_takeCopy_20 ?_
    refine lv_aload_n hx hb d_BR_takeCopy_23 rfl (lv_at hl 1 rfl) ?_
    refine va_get (D := (dC, dI)) (ci := 5) (v := .ref t) (C := R_BR) (T := T_BR) (N := 9) hx hb hts w_218 hown hK hP 0 rfl rfl 2 (by decide) (hts _ w_225) (fun _ h9 => h9) rfl d_BR_takeCopy_24 ?_
    obtain ⟨r27, hc27, hf⟩ := bd1_some hf
    refine s_Vi (As := []) (rest := [.int b_most, .int (x1 + (4 : Int32))]) (wr := [(br, .inr (5, [.ref i, .ref h, .ref t, .int b_at, .int b_end, .int b_start, .int b_most, .int b_dist, .int b_place])), (h, .inr (1, [.ref ha, .int hn])), (ha, .inl (cB, 8000, .inl hf)), (ta, .inl (cB, 8000, .inl tf))]) (ws' := wd_BR_takeCopy br h ha t ta i cB cI cJ b_at b_end b_start b_most b_dist b_place hn hf tn tf) C.call (c_Row_count l dC dI cB cI cJ t ta  tn  hc27) (cwV 0 hts (gd_V w_226 w_10 w_11 w_12 w_13) rfl rfl rfl ⟨rfl, hd_Row_count⟩ ⟨Nat.le_of_ble_eq_true rfl, Nat.le_of_ble_eq_true rfl⟩) rfl hl.1 rfl (Nat.le_of_ble_eq_true rfl) d_BR_takeCopy_27 ⟨Nat.le_of_ble_eq_true rfl, Nat.le_of_ble_eq_true rfl⟩ hZ hK hP hD hS hA 1 3 rfl rfl [3] [0, 1, 2, 4] [0, 1, 2, 4, 3] rfl rfl rfl rfl (by decide) rfl rfl (fun H locs hP hD hS => ?_)
    refine lv_isub hx hb d_BR_takeCopy_30 ?_
    refine lv_icmp_le (tgt := 41) hx hb d_BR_takeCopy_31 (by decide) (fun c_31 => ?_) (fun c_31 => ?_)
    · have hf := br_pos c_31 hf
      refine lv_iconst (v := 0) hx hb d_BR_takeCopy_41 (by decide) ?_
      refine lv_istore (lv' := [(4, .int (0 : Int32)), (3, .int (x1 + (4 : Int32))), (0, .ref br), (1, .int x1), (2, .int x2)]) hx hb d_BR_takeCopy_42 hl (by decide) rfl (fun ls hl => ?_)
      exact k_BR_takeCopy_44 C hK hA (x1 + (4 : Int32)) b_at b_end b_start b_most b_dist b_place hn hf  N (0 : Int32) tn tf hf _ _ hP hD hS _ (lv_sub hl [2, 1, 0] rfl)
    · have hf := br_neg c_31 hf
      refine lv_aload_n hx hb d_BR_takeCopy_34 rfl (lv_at hl 1 rfl) ?_
      refine lv_iconst (v := 3) hx hb d_BR_takeCopy_35 (by decide) ?_
      refine lv_iload_n hx hb d_BR_takeCopy_36 rfl (lv_at hl 3 rfl) ?_
      obtain ⟨r37, b_place_37, hc37, hf⟩ := bd2_some hf
      refine s_Vi (As := [.int (3 : Int32), .int x2]) (rest := []) (wr := [(h, .inr (1, [.ref ha, .int hn])), (ha, .inl (cB, 8000, .inl hf)), (t, .inr (1, [.ref ta, .int tn])), (ta, .inl (cB, 8000, .inl tf))]) (ws' := wd_BR_takeCopy br h ha t ta i cB cI cJ b_at b_end b_start b_most b_dist b_place_37 hn hf tn tf) C.call (c_BR_fault l dC dI cB cI cJ br i h t  b_at b_end b_start b_most b_dist b_place (3 : Int32) x2 hc37) (cwV 2 hts (gd_V w_231 w_232 w_233 w_234 w_235) rfl rfl rfl ⟨rfl, hd_BR_fault⟩ ⟨Nat.le_of_ble_eq_true rfl, Nat.le_of_ble_eq_true rfl⟩) rfl hl.1 rfl (Nat.le_of_ble_eq_true rfl) d_BR_takeCopy_37 ⟨Nat.le_of_ble_eq_true rfl, Nat.le_of_ble_eq_true rfl⟩ hZ hK hP hD hS hA 5 0 rfl rfl [0] [1, 2, 3, 4] [4, 0, 1, 2, 3] rfl rfl rfl rfl (by decide) rfl rfl (fun H locs hP hD hS => ?_)
      cases hf
      exact s_iret hx hb hr hlocks hP hK hD hS d_BR_takeCopy_40
  · have hf := br_neg c_1 hf
    refine lv_aload_n hx hb d_BR_takeCopy_4 rfl (lv_at hl 0 rfl) ?_
    refine lv_iconst (v := 1) hx hb d_BR_takeCopy_5 (by decide) ?_
    refine lv_aload_n hx hb d_BR_takeCopy_6 rfl (lv_at hl 0 rfl) ?_
    refine va_get (D := (dC, dI)) (ci := 5) (v := .int b_end) (C := R_BR) (T := T_BR) (N := 9) hx hb hts w_218 hown hK hP 0 rfl rfl 4 (by decide) (hts _ w_221) (fun _ h9 => h9) rfl d_BR_takeCopy_7 ?_
    obtain ⟨r10, b_place_10, hc10, hf⟩ := bd2_some hf
    refine s_Vi (As := [.int (1 : Int32), .int b_end]) (rest := []) (wr := [(h, .inr (1, [.ref ha, .int hn])), (ha, .inl (cB, 8000, .inl hf)), (t, .inr (1, [.ref ta, .int tn])), (ta, .inl (cB, 8000, .inl tf))]) (ws' := wd_BR_takeCopy br h ha t ta i cB cI cJ b_at b_end b_start b_most b_dist b_place_10 hn hf tn tf) C.call (c_BR_fault l dC dI cB cI cJ br i h t  b_at b_end b_start b_most b_dist b_place (1 : Int32) b_end hc10) (cwV 2 hts (gd_V w_231 w_232 w_233 w_234 w_235) rfl rfl rfl ⟨rfl, hd_BR_fault⟩ ⟨Nat.le_of_ble_eq_true rfl, Nat.le_of_ble_eq_true rfl⟩) rfl hl.1 rfl (Nat.le_of_ble_eq_true rfl) d_BR_takeCopy_10 ⟨Nat.le_of_ble_eq_true rfl, Nat.le_of_ble_eq_true rfl⟩ hZ hK hP hD hS hA 5 0 rfl rfl [0] [1, 2, 3, 4] [4, 0, 1, 2, 3] rfl rfl rfl rfl (by decide) rfl rfl (fun H locs hP hD hS => ?_)
    cases hf
    exact s_iret hx hb hr hlocks hP hK hD hS d_BR_takeCopy_13
end
noncomputable abbrev f_BR_takeCopy (N : Nat) (x1 : Int32) (x2 : Int32) (b_end : Int32) (b_start : Int32) (b_most : Int32) (b_dist : Int32) (b_place : Int32) (hn : Int32) (hf : Nat → Int32) (tn : Int32) (tf : Nat → Int32) : Option (Int32 × Int32 × Int32 × (Nat → Int32)) := j_BR_takeCopy_0 N x1 x2 b_end b_start b_most b_dist b_place hn hf tn tf
set_option maxRecDepth 100000 in
theorem c_BR_takeCopy {N : Nat} (l : Launch) (dC : Nat → ClassId) (dI : Nat → Nat → Nat) (cB cI cJ : ClassId) (br h ha t ta i : Nat) (b_at : Int32) (b_end : Int32) (b_start : Int32) (b_most : Int32) (b_dist : Int32) (b_place : Int32) (hn : Int32) (hf : Nat → Int32) (tn : Int32) (tf : Nat → Int32) (x1 : Int32) (x2 : Int32) {r_z : Int32} {b_place_z : Int32} {tn_z : Int32} {tf_z : Nat → Int32} (hf : f_BR_takeCopy N x1 x2 b_end b_start b_most b_dist b_place hn hf tn tf = some (r_z, b_place_z, tn_z, tf_z)) : MetI l y_BR_takeCopy ws_BR_takeCopy rm_BR_takeCopy (dC, dI) vwCl [(cB, .byte), (cI, .int), (cJ, .long)] [.ref br, .int x1, .int x2] (wd_BR_takeCopy br h ha t ta i cB cI cJ b_at b_end b_start b_most b_dist b_place hn hf tn tf) r_z (wd_BR_takeCopy br h ha t ta i cB cI cJ b_at b_end b_start b_most b_dist b_place_z hn hf tn_z tf_z) 0 0 :=
  s_ofi (bytes := cd_BR_takeCopy) (maxL := 6) (ret := (some .int)) (by decide) rfl (Nat.le_of_ble_eq_true rfl) (fun p e s m below meth c A ls C hK hA hP hD hS hl => k_BR_takeCopy_0 C hK hA x1 x2 b_at b_end b_start b_most b_dist b_place hn hf tn tf hf hP hD hS (lv_sub hl [0, 1, 2] rfl))

abbrev wd_BR_takeDistance (br i ia h t ha ta : Nat) (cB cI cJ : ClassId) (b_at : Int32) (b_end : Int32) (b_start : Int32) (b_most : Int32) (b_dist : Int32) (b_place : Int32) (in : Int32) (if : Nat → Int32) (hn : Int32) (tn : Int32) : va_W := [(br, .inr (5, [.ref i, .ref h, .ref t, .int b_at, .int b_end, .int b_start, .int b_most, .int b_dist, .int b_place])), (i, .inr (1, [.ref ia, .int in])), (ia, .inl (cB, 8000, .inl if)), (h, .inr (1, [.ref ha, .int hn])), (t, .inr (1, [.ref ta, .int tn]))]
abbrev rm_BR_takeDistance : Room := { frames := 1, cells := 0, slots := 0, locals := 22 }
section
variable {p : Program} {l : Launch} {e : Env} {s : State} {m : MethodId} {args : Array Value} {below : List Frame} {meth : Method} {c : Code} {dC : Nat → ClassId} {dI : Nat → Nat → Nat} {A : Nat → Prop} {cB cI cJ : ClassId} {H : Heap} {locs : List Loc} {ls : Array Slot} {N : Nat} {br i ia h t ha ta : Nat}
noncomputable def j_BR_takeDistance_72 (b_at : Int32) (b_dist : Int32)  : Option (Int32 × Int32 × Int32 × Int32) :=
  bd2 (f_BR_fault (2 : Int32) b_at) (fun r78 b_place_78 => (some (r78, b_at, b_dist, b_place_78) : Option (Int32 × Int32 × Int32 × Int32)))
set_option maxHeartbeats 4000000 in
set_option maxRecDepth 100000 in
theorem k_BR_takeDistance_72 {r_z : Int32} {b_at_z : Int32} {b_dist_z : Int32} {b_place_z : Int32} (C : Fx p s m args meth c cd_BR_takeDistance 1 R_BR lw_g (some .int)) (hK : va_K (dC, dI) vwCl [(cB, .byte), (cI, .int), (cJ, .long)] s) (hA : ∀ q, s.heap.size ≤ q → A q) (b_at : Int32) (b_end : Int32) (b_start : Int32) (b_most : Int32) (b_dist : Int32) (b_place : Int32) (in : Int32) (if : Nat → Int32) (hn : Int32) (tn : Int32)  (hf : j_BR_takeDistance_72 b_at b_dist  = some (r_z, b_at_z, b_dist_z, b_place_z)) (hP : va_P (dC, dI) vwCl (wd_BR_takeDistance br i ia h t ha ta cB cI cJ b_at b_end b_start b_most b_dist b_place in if hn tn) H) (hD : va_D A (wd_BR_takeDistance br i ia h t ha ta cB cI cJ b_at b_end b_start b_most b_dist b_place in if hn tn)) (hS : va_S A s.heap H locs) (hl : lv_has ls 1 [(0, .ref br)]) : W p l e rm_BR_takeDistance s m args below meth c H locs 0 0 (MQ below (sQi (dC, dI) vwCl [(cB, .byte), (cI, .int), (cJ, .long)] A r_z (wd_BR_takeDistance br i ia h t ha ta cB cI cJ b_at_z b_end b_start b_most b_dist_z b_place_z in if hn tn)) args s 0 0 A) (F0 m 72 ls []) := by
  obtain ⟨hx, hb, hml, hown, hts, hr, hlocks, hZ⟩ := id C
  unfold j_BR_takeDistance_72 at hf
  refine lv_aload_n hx hb d_BR_takeDistance_72 rfl (lv_at hl 0 rfl) ?_
  refine lv_iconst (v := 2) hx hb d_BR_takeDistance_73 (by decide) ?_
  refine lv_aload_n hx hb d_BR_takeDistance_74 rfl (lv_at hl 0 rfl) ?_
  refine va_get (D := (dC, dI)) (ci := 5) (v := .int b_at) (C := R_BR) (T := T_BR) (N := 9) hx hb hts w_218 hown hK hP 0 rfl rfl 3 (by decide) (hts _ w_220) (fun _ h9 => h9) rfl d_BR_takeDistance_75 ?_
  obtain ⟨r78, b_place_78, hc78, hf⟩ := bd2_some hf
  refine s_Vi (As := [.int (2 : Int32), .int b_at]) (rest := []) (wr := [(i, .inr (1, [.ref ia, .int in])), (ia, .inl (cB, 8000, .inl if)), (h, .inr (1, [.ref ha, .int hn])), (t, .inr (1, [.ref ta, .int tn]))]) (ws' := wd_BR_takeDistance br i ia h t ha ta cB cI cJ b_at b_end b_start b_most b_dist b_place_78 in if hn tn) C.call (c_BR_fault l dC dI cB cI cJ br i h t  b_at b_end b_start b_most b_dist b_place (2 : Int32) b_at hc78) (cwV 2 hts (gd_V w_231 w_232 w_233 w_234 w_235) rfl rfl rfl ⟨rfl, hd_BR_fault⟩ ⟨Nat.le_of_ble_eq_true rfl, Nat.le_of_ble_eq_true rfl⟩) rfl hl.1 rfl (Nat.le_of_ble_eq_true rfl) d_BR_takeDistance_78 ⟨Nat.le_of_ble_eq_true rfl, Nat.le_of_ble_eq_true rfl⟩ hZ hK hP hD hS hA 5 0 rfl rfl [0] [1, 2, 3, 4] [4, 0, 1, 2, 3] rfl rfl rfl rfl (by decide) rfl rfl (fun H locs hP hD hS => ?_)
  cases hf
  exact s_iret hx hb hr hlocks hP hK hD hS d_BR_takeDistance_81
noncomputable def j_BR_takeDistance_0 (b_at : Int32) (b_end : Int32) (b_start : Int32) (b_dist : Int32) (b_place : Int32) (in : Int32) (if : Nat → Int32) (hn : Int32) (tn : Int32)  : Option (Int32 × Int32 × Int32 × Int32) :=
  (if (2 : Int32) ≤ (b_end - b_at) then bd1 (f_Row_pair 8000 b_at in if) (fun r32 => (if r32 = 0 then (j_BR_takeDistance_72 b_at r32 ) else bd1 (f_Row_count hn) (fun r53 => bd1 (f_Row_count tn) (fun r60 => (if r32 ≤ ((r53 + r60) - b_start) then (some ((0 : Int32), (b_at + (2 : Int32)), r32, b_place) : Option (Int32 × Int32 × Int32 × Int32)) else (j_BR_takeDistance_72 b_at r32 )))))) else bd2 (f_BR_fault (1 : Int32) b_end) (fun r19 b_place_19 => (some (r19, b_at, b_dist, b_place_19) : Option (Int32 × Int32 × Int32 × Int32))))
set_option maxHeartbeats 4000000 in
set_option maxRecDepth 100000 in
theorem k_BR_takeDistance_0 {r_z : Int32} {b_at_z : Int32} {b_dist_z : Int32} {b_place_z : Int32} (C : Fx p s m args meth c cd_BR_takeDistance 1 R_BR lw_g (some .int)) (hK : va_K (dC, dI) vwCl [(cB, .byte), (cI, .int), (cJ, .long)] s) (hA : ∀ q, s.heap.size ≤ q → A q) (b_at : Int32) (b_end : Int32) (b_start : Int32) (b_most : Int32) (b_dist : Int32) (b_place : Int32) (in : Int32) (if : Nat → Int32) (hn : Int32) (tn : Int32)  (hf : j_BR_takeDistance_0 b_at b_end b_start b_dist b_place in if hn tn  = some (r_z, b_at_z, b_dist_z, b_place_z)) (hP : va_P (dC, dI) vwCl (wd_BR_takeDistance br i ia h t ha ta cB cI cJ b_at b_end b_start b_most b_dist b_place in if hn tn) H) (hD : va_D A (wd_BR_takeDistance br i ia h t ha ta cB cI cJ b_at b_end b_start b_most b_dist b_place in if hn tn)) (hS : va_S A s.heap H locs) (hl : lv_has ls 1 [(0, .ref br)]) : W p l e rm_BR_takeDistance s m args below meth c H locs 0 0 (MQ below (sQi (dC, dI) vwCl [(cB, .byte), (cI, .int), (cJ, .long)] A r_z (wd_BR_takeDistance br i ia h t ha ta cB cI cJ b_at_z b_end b_start b_most b_dist_z b_place_z in if hn tn)) args s 0 0 A) (F0 m 0 ls []) := by
  obtain ⟨hx, hb, hml, hown, hts, hr, hlocks, hZ⟩ := id C
  unfold j_BR_takeDistance_0 at hf
  refine lv_aload_n hx hb d_BR_takeDistance_0 rfl (lv_at hl 0 rfl) ?_
  refine va_get (D := (dC, dI)) (ci := 5) (v := .int b_end) (C := R_BR) (T := T_BR) (N := 9) hx hb hts w_218 hown hK hP 0 rfl rfl 4 (by decide) (hts _ w_221) (fun _ h9 => h9) rfl d_BR_takeDistance_1 ?_
  refine lv_aload_n hx hb d_BR_takeDistance_4 rfl (lv_at hl 0 rfl) ?_
  refine va_get (D := (dC, dI)) (ci := 5) (v := .int b_at) (C := R_BR) (T := T_BR) (N := 9) hx hb hts w_218 hown hK hP 0 rfl rfl 3 (by decide) (hts _ w_220) (fun _ h9 => h9) rfl d_BR_takeDistance_5 ?_
  refine lv_isub hx hb d_BR_takeDistance_8 ?_
  refine lv_iconst (v := 2) hx hb d_BR_takeDistance_9 (by decide) ?_
  refine lv_icmp_ge (tgt := 23) hx hb d_BR_takeDistance_10 (by decide) (fun c_10 => ?_) (fun c_10 => ?_)
  · have hf := br_pos c_10 hf
    refine lv_aload_n hx hb d_BR_takeDistance_23 rfl (lv_at hl 0 rfl) ?_
    refine lv_aload_n hx hb d_BR_takeDistance_24 rfl (lv_at hl 0 rfl) ?_
    refine va_get (D := (dC, dI)) (ci := 5) (v := .ref i) (C := R_BR) (T := T_BR) (N := 9) hx hb hts w_218 hown hK hP 0 rfl rfl 0 (by decide) (hts _ w_222) (fun _ h9 => h9) rfl d_BR_takeDistance_25 ?_
    refine lv_aload_n hx hb d_BR_takeDistance_28 rfl (lv_at hl 0 rfl) ?_
    refine va_get (D := (dC, dI)) (ci := 5) (v := .int b_at) (C := R_BR) (T := T_BR) (N := 9) hx hb hts w_218 hown hK hP 0 rfl rfl 3 (by decide) (hts _ w_220) (fun _ h9 => h9) rfl d_BR_takeDistance_29 ?_
    obtain ⟨r32, hc32, hf⟩ := bd1_some hf
    refine s_Vi (As := [.int b_at]) (rest := [.ref br]) (wr := [(br, .inr (5, [.ref i, .ref h, .ref t, .int b_at, .int b_end, .int b_start, .int b_most, .int b_dist, .int b_place])), (h, .inr (1, [.ref ha, .int hn])), (t, .inr (1, [.ref ta, .int tn]))]) (ws' := wd_BR_takeDistance br i ia h t ha ta cB cI cJ b_at b_end b_start b_most b_dist b_place in if hn tn) C.call (c_Row_pair l dC dI cB cI cJ i ia 8000 in if b_at hc32) (cwV 1 hts (gd_V w_236 w_237 w_238 w_12 w_239) rfl rfl rfl ⟨rfl, hd_Row_pair⟩ ⟨Nat.le_of_ble_eq_true rfl, Nat.le_of_ble_eq_true rfl⟩) rfl hl.1 rfl (Nat.le_of_ble_eq_true rfl) d_BR_takeDistance_32 ⟨Nat.le_of_ble_eq_true rfl, Nat.le_of_ble_eq_true rfl⟩ hZ hK hP hD hS hA 1 1 rfl rfl [1, 2] [0, 3, 4] [0, 3, 4, 1, 2] rfl rfl rfl rfl (by decide) rfl rfl (fun H locs hP hD hS => ?_)
    refine va_put (D := (dC, dI)) (ci := 5) (v := .int r32) (ty := .int) (C := R_BR) (T := T_BR) (N := 9) hx hb hts w_218 ty_BR ty_BR_ok nm_BR hown hK hP hD hS 0 rfl rfl 7 (by decide) (hts _ w_227) (fun _ h9 => h9) rfl (by decide +kernel) rfl rfl (Nat.le_of_ble_eq_true rfl) d_BR_takeDistance_35 (fun H locs hP hD hS => ?_)
    have hP : va_P (dC, dI) vwCl (wd_BR_takeDistance br i ia h t ha ta cB cI cJ b_at b_end b_start b_most r32 b_place in if hn tn) H := hP
    have hD : va_D A (wd_BR_takeDistance br i ia h t ha ta cB cI cJ b_at b_end b_start b_most r32 b_place in if hn tn) := hD
    refine lv_aload_n hx hb d_BR_takeDistance_38 rfl (lv_at hl 0 rfl) ?_
    refine va_get (D := (dC, dI)) (ci := 5) (v := .int r32) (C := R_BR) (T := T_BR) (N := 9) hx hb hts w_218 hown hK hP 0 rfl rfl 7 (by decide) (hts _ w_227) (fun _ h9 => h9) rfl d_BR_takeDistance_39 ?_
    refine lv_if_eq (tgt := 72) hx hb d_BR_takeDistance_42 (by decide) (fun c_42 => ?_) (fun c_42 => ?_)
    · have hf := br_pos c_42 hf
      exact k_BR_takeDistance_72 C hK hA b_at b_end b_start b_most r32 b_place in if hn tn  hf hP hD hS (lv_sub hl [0] rfl)
    · have hf := br_neg c_42 hf
      refine lv_aload_n hx hb d_BR_takeDistance_45 rfl (lv_at hl 0 rfl) ?_
      refine va_get (D := (dC, dI)) (ci := 5) (v := .int r32) (C := R_BR) (T := T_BR) (N := 9) hx hb hts w_218 hown hK hP 0 rfl rfl 7 (by decide) (hts _ w_227) (fun _ h9 => h9) rfl d_BR_takeDistance_46 ?_
      refine lv_aload_n hx hb d_BR_takeDistance_49 rfl (lv_at hl 0 rfl) ?_
      refine va_get (D := (dC, dI)) (ci := 5) (v := .ref h) (C := R_BR) (T := T_BR) (N := 9) hx hb hts w_218 hown hK hP 0 rfl rfl 1 (by decide) (hts _ w_229) (fun _ h9 => h9) rfl d_BR_takeDistance_50 ?_
      obtain ⟨r53, hc53, hf⟩ := bd1_some hf
      refine s_Vi (As := []) (rest := [.int r32]) (wr := [(br, .inr (5, [.ref i, .ref h, .ref t, .int b_at, .int b_end, .int b_start, .int b_most, .int r32, .int b_place])), (i, .inr (1, [.ref ia, .int in])), (ia, .inl (cB, 8000, .inl if)), (t, .inr (1, [.ref ta, .int tn]))]) (ws' := wd_BR_takeDistance br i ia h t ha ta cB cI cJ b_at b_end b_start b_most r32 b_place in if hn tn) C.call (c_Row_count l dC dI cB cI cJ h ha  hn  hc53) (cwV 0 hts (gd_V w_226 w_10 w_11 w_12 w_13) rfl rfl rfl ⟨rfl, hd_Row_count⟩ ⟨Nat.le_of_ble_eq_true rfl, Nat.le_of_ble_eq_true rfl⟩) rfl hl.1 rfl (Nat.le_of_ble_eq_true rfl) d_BR_takeDistance_53 ⟨Nat.le_of_ble_eq_true rfl, Nat.le_of_ble_eq_true rfl⟩ hZ hK hP hD hS hA 1 3 rfl rfl [3] [0, 1, 2, 4] [0, 1, 2, 4, 3] rfl rfl rfl rfl (by decide) rfl rfl (fun H locs hP hD hS => ?_)
      refine lv_aload_n hx hb d_BR_takeDistance_56 rfl (lv_at hl 0 rfl) ?_
      refine va_get (D := (dC, dI)) (ci := 5) (v := .ref t) (C := R_BR) (T := T_BR) (N := 9) hx hb hts w_218 hown hK hP 0 rfl rfl 2 (by decide) (hts _ w_225) (fun _ h9 => h9) rfl d_BR_takeDistance_57 ?_
      obtain ⟨r60, hc60, hf⟩ := bd1_some hf
      refine s_Vi (As := []) (rest := [.int r53, .int r32]) (wr := [(br, .inr (5, [.ref i, .ref h, .ref t, .int b_at, .int b_end, .int b_start, .int b_most, .int r32, .int b_place])), (i, .inr (1, [.ref ia, .int in])), (ia, .inl (cB, 8000, .inl if)), (h, .inr (1, [.ref ha, .int hn]))]) (ws' := wd_BR_takeDistance br i ia h t ha ta cB cI cJ b_at b_end b_start b_most r32 b_place in if hn tn) C.call (c_Row_count l dC dI cB cI cJ t ta  tn  hc60) (cwV 0 hts (gd_V w_226 w_10 w_11 w_12 w_13) rfl rfl rfl ⟨rfl, hd_Row_count⟩ ⟨Nat.le_of_ble_eq_true rfl, Nat.le_of_ble_eq_true rfl⟩) rfl hl.1 rfl (Nat.le_of_ble_eq_true rfl) d_BR_takeDistance_60 ⟨Nat.le_of_ble_eq_true rfl, Nat.le_of_ble_eq_true rfl⟩ hZ hK hP hD hS hA 1 4 rfl rfl [4] [0, 1, 2, 3] [0, 1, 2, 3, 4] rfl rfl rfl rfl (by decide) rfl rfl (fun H locs hP hD hS => ?_)
      refine lv_iadd hx hb d_BR_takeDistance_63 ?_
      refine lv_aload_n hx hb d_BR_takeDistance_64 rfl (lv_at hl 0 rfl) ?_
      refine va_get (D := (dC, dI)) (ci := 5) (v := .int b_start) (C := R_BR) (T := T_BR) (N := 9) hx hb hts w_218 hown hK hP 0 rfl rfl 5 (by decide) (hts _ w_228) (fun _ h9 => h9) rfl d_BR_takeDistance_65 ?_
      refine lv_isub hx hb d_BR_takeDistance_68 ?_
      refine lv_icmp_le (tgt := 82) hx hb d_BR_takeDistance_69 (by decide) (fun c_69 => ?_) (fun c_69 => ?_)
      · have hf := br_pos c_69 hf
        refine lv_aload_n hx hb d_BR_takeDistance_82 rfl (lv_at hl 0 rfl) ?_
        refine lv_dup hx hb d_BR_takeDistance_83 rfl ?_
        refine va_get (D := (dC, dI)) (ci := 5) (v := .int b_at) (C := R_BR) (T := T_BR) (N := 9) hx hb hts w_218 hown hK hP 0 rfl rfl 3 (by decide) (hts _ w_220) (fun _ h9 => h9) rfl d_BR_takeDistance_84 ?_
        refine lv_iconst (v := 2) hx hb d_BR_takeDistance_87 (by decide) ?_
        refine lv_iadd hx hb d_BR_takeDistance_88 ?_
        refine va_put (D := (dC, dI)) (ci := 5) (v := .int (b_at + (2 : Int32))) (ty := .int) (C := R_BR) (T := T_BR) (N := 9) hx hb hts w_218 ty_BR ty_BR_ok nm_BR hown hK hP hD hS 0 rfl rfl 3 (by decide) (hts _ w_220) (fun _ h9 => h9) rfl (by decide +kernel) rfl rfl (Nat.le_of_ble_eq_true rfl) d_BR_takeDistance_89 (fun H locs hP hD hS => ?_)
        have hP : va_P (dC, dI) vwCl (wd_BR_takeDistance br i ia h t ha ta cB cI cJ (b_at + (2 : Int32)) b_end b_start b_most r32 b_place in if hn tn) H := hP
        have hD : va_D A (wd_BR_takeDistance br i ia h t ha ta cB cI cJ (b_at + (2 : Int32)) b_end b_start b_most r32 b_place in if hn tn) := hD
        refine lv_iconst (v := 0) hx hb d_BR_takeDistance_92 (by decide) ?_
        cases hf
        exact s_iret hx hb hr hlocks hP hK hD hS d_BR_takeDistance_93
      · have hf := br_neg c_69 hf
        exact k_BR_takeDistance_72 C hK hA b_at b_end b_start b_most r32 b_place in if hn tn  hf hP hD hS (lv_sub hl [0] rfl)
  · have hf := br_neg c_10 hf
    refine lv_aload_n hx hb d_BR_takeDistance_13 rfl (lv_at hl 0 rfl) ?_
    refine lv_iconst (v := 1) hx hb d_BR_takeDistance_14 (by decide) ?_
    refine lv_aload_n hx hb d_BR_takeDistance_15 rfl (lv_at hl 0 rfl) ?_
    refine va_get (D := (dC, dI)) (ci := 5) (v := .int b_end) (C := R_BR) (T := T_BR) (N := 9) hx hb hts w_218 hown hK hP 0 rfl rfl 4 (by decide) (hts _ w_221) (fun _ h9 => h9) rfl d_BR_takeDistance_16 ?_
    obtain ⟨r19, b_place_19, hc19, hf⟩ := bd2_some hf
    refine s_Vi (As := [.int (1 : Int32), .int b_end]) (rest := []) (wr := [(i, .inr (1, [.ref ia, .int in])), (ia, .inl (cB, 8000, .inl if)), (h, .inr (1, [.ref ha, .int hn])), (t, .inr (1, [.ref ta, .int tn]))]) (ws' := wd_BR_takeDistance br i ia h t ha ta cB cI cJ b_at b_end b_start b_most b_dist b_place_19 in if hn tn) C.call (c_BR_fault l dC dI cB cI cJ br i h t  b_at b_end b_start b_most b_dist b_place (1 : Int32) b_end hc19) (cwV 2 hts (gd_V w_231 w_232 w_233 w_234 w_235) rfl rfl rfl ⟨rfl, hd_BR_fault⟩ ⟨Nat.le_of_ble_eq_true rfl, Nat.le_of_ble_eq_true rfl⟩) rfl hl.1 rfl (Nat.le_of_ble_eq_true rfl) d_BR_takeDistance_19 ⟨Nat.le_of_ble_eq_true rfl, Nat.le_of_ble_eq_true rfl⟩ hZ hK hP hD hS hA 5 0 rfl rfl [0] [1, 2, 3, 4] [4, 0, 1, 2, 3] rfl rfl rfl rfl (by decide) rfl rfl (fun H locs hP hD hS => ?_)
    cases hf
    exact s_iret hx hb hr hlocks hP hK hD hS d_BR_takeDistance_22
end
noncomputable abbrev f_BR_takeDistance (b_at : Int32) (b_end : Int32) (b_start : Int32) (b_dist : Int32) (b_place : Int32) (in : Int32) (if : Nat → Int32) (hn : Int32) (tn : Int32) : Option (Int32 × Int32 × Int32 × Int32) := j_BR_takeDistance_0 b_at b_end b_start b_dist b_place in if hn tn
set_option maxRecDepth 100000 in
theorem c_BR_takeDistance (l : Launch) (dC : Nat → ClassId) (dI : Nat → Nat → Nat) (cB cI cJ : ClassId) (br i ia h t ha ta : Nat) (b_at : Int32) (b_end : Int32) (b_start : Int32) (b_most : Int32) (b_dist : Int32) (b_place : Int32) (in : Int32) (if : Nat → Int32) (hn : Int32) (tn : Int32)  {r_z : Int32} {b_at_z : Int32} {b_dist_z : Int32} {b_place_z : Int32} (hf : f_BR_takeDistance b_at b_end b_start b_dist b_place in if hn tn = some (r_z, b_at_z, b_dist_z, b_place_z)) : MetI l y_BR_takeDistance ws_BR_takeDistance rm_BR_takeDistance (dC, dI) vwCl [(cB, .byte), (cI, .int), (cJ, .long)] [.ref br] (wd_BR_takeDistance br i ia h t ha ta cB cI cJ b_at b_end b_start b_most b_dist b_place in if hn tn) r_z (wd_BR_takeDistance br i ia h t ha ta cB cI cJ b_at_z b_end b_start b_most b_dist_z b_place_z in if hn tn) 0 0 :=
  s_ofi (bytes := cd_BR_takeDistance) (maxL := 1) (ret := (some .int)) (by decide) rfl (Nat.le_of_ble_eq_true rfl) (fun p e s m below meth c A ls C hK hA hP hD hS hl => k_BR_takeDistance_0 C hK hA b_at b_end b_start b_most b_dist b_place in if hn tn hf hP hD hS (lv_sub hl [0] rfl))

abbrev wd_BR_takeLiterals (br i ia t ta h : Nat) (cB cI cJ : ClassId) (b_at : Int32) (b_end : Int32) (b_start : Int32) (b_most : Int32) (b_dist : Int32) (b_place : Int32) (in : Int32) (if : Nat → Int32) (tn : Int32) (tf : Nat → Int32) : va_W := [(br, .inr (5, [.ref i, .ref h, .ref t, .int b_at, .int b_end, .int b_start, .int b_most, .int b_dist, .int b_place])), (i, .inr (1, [.ref ia, .int in])), (ia, .inl (cB, 8000, .inl if)), (t, .inr (1, [.ref ta, .int tn])), (ta, .inl (cB, 8000, .inl tf))]
abbrev rm_BR_takeLiterals : Room := { frames := 2, cells := 0, slots := 0, locals := 42 }
section
variable {p : Program} {l : Launch} {e : Env} {s : State} {m : MethodId} {args : Array Value} {below : List Frame} {meth : Method} {c : Code} {dC : Nat → ClassId} {dI : Nat → Nat → Nat} {A : Nat → Prop} {cB cI cJ : ClassId} {H : Heap} {locs : List Loc} {ls : Array Slot} {N : Nat} {br i ia t ta h : Nat}
noncomputable def j_BR_takeLiterals_0 (x1 : Int32) (b_at : Int32) (b_end : Int32) (b_most : Int32) (b_place : Int32) (in : Int32) (if : Nat → Int32) (tn : Int32) (tf : Nat → Int32)  : Option (Int32 × Int32 × Int32 × Int32 × (Nat → Int32)) :=
  (if 0 ≤ x1 then bd1 (f_Row_count tn) (fun r32 => bd3 (f_Row_addFrom 8000 8000 b_at (b_at + (mn x1 (mn (b_end - b_at) (b_most - r32)))) tn tf in if) (fun r61 tn_61 tf_61 => (if (mn x1 (mn (b_end - b_at) (b_most - r32))) = x1 then (some ((0 : Int32), (b_at + (mn x1 (mn (b_end - b_at) (b_most - r32)))), b_place, tn_61, tf_61) : Option (Int32 × Int32 × Int32 × Int32 × (Nat → Int32))) else (if (b_at + (mn x1 (mn (b_end - b_at) (b_most - r32)))) < b_end then bd2 (f_BR_fault (3 : Int32) (b_at + (mn x1 (mn (b_end - b_at) (b_most - r32))))) (fun r111 b_place_111 => (some (r111, (b_at + (mn x1 (mn (b_end - b_at) (b_most - r32)))), b_place_111, tn_61, tf_61) : Option (Int32 × Int32 × Int32 × Int32 × (Nat → Int32)))) else bd2 (f_BR_fault (1 : Int32) b_end) (fun r99 b_place_99 => (some (r99, (b_at + (mn x1 (mn (b_end - b_at) (b_most - r32)))), b_place_99, tn_61, tf_61) : Option (Int32 × Int32 × Int32 × Int32 × (Nat → Int32)))))))) else bd2 (f_BR_fault (1 : Int32) b_end) (fun r10 b_place_10 => (some (r10, b_at, b_place_10, tn, tf) : Option (Int32 × Int32 × Int32 × Int32 × (Nat → Int32)))))
set_option maxHeartbeats 4000000 in
set_option maxRecDepth 100000 in
theorem k_BR_takeLiterals_0 {r_z : Int32} {b_at_z : Int32} {b_place_z : Int32} {tn_z : Int32} {tf_z : Nat → Int32} (C : Fx p s m args meth c cd_BR_takeLiterals 3 R_BR lw_g (some .int)) (hK : va_K (dC, dI) vwCl [(cB, .byte), (cI, .int), (cJ, .long)] s) (hA : ∀ q, s.heap.size ≤ q → A q) (x1 : Int32) (b_at : Int32) (b_end : Int32) (b_start : Int32) (b_most : Int32) (b_dist : Int32) (b_place : Int32) (in : Int32) (if : Nat → Int32) (tn : Int32) (tf : Nat → Int32)  (hf : j_BR_takeLiterals_0 x1 b_at b_end b_most b_place in if tn tf  = some (r_z, b_at_z, b_place_z, tn_z, tf_z)) (hP : va_P (dC, dI) vwCl (wd_BR_takeLiterals br i ia t ta h cB cI cJ b_at b_end b_start b_most b_dist b_place in if tn tf) H) (hD : va_D A (wd_BR_takeLiterals br i ia t ta h cB cI cJ b_at b_end b_start b_most b_dist b_place in if tn tf)) (hS : va_S A s.heap H locs) (hl : lv_has ls 3 [(0, .ref br), (1, .int x1)]) : W p l e rm_BR_takeLiterals s m args below meth c H locs 0 0 (MQ below (sQi (dC, dI) vwCl [(cB, .byte), (cI, .int), (cJ, .long)] A r_z (wd_BR_takeLiterals br i ia t ta h cB cI cJ b_at_z b_end b_start b_most b_dist b_place_z in if tn_z tf_z)) args s 0 0 A) (F0 m 0 ls []) := by
  obtain ⟨hx, hb, hml, hown, hts, hr, hlocks, hZ⟩ := id C
  unfold j_BR_takeLiterals_0 at hf
  refine lv_iload_n hx hb d_BR_takeLiterals_0 rfl (lv_at hl 1 rfl) ?_
  refine lv_if_ge (tgt := 14) hx hb d_BR_takeLiterals_1 (by decide) (fun c_1 => ?_) (fun c_1 => ?_)
  · have hf := br_pos c_1 hf
    refine lv_iload_n hx hb d_BR_takeLiterals_14 rfl (lv_at hl 1 rfl) ?_
    refine lv_aload_n hx hb d_BR_takeLiterals_15 rfl (lv_at hl 0 rfl) ?_
    refine va_get (D := (dC, dI)) (ci := 5) (v := .int b_end) (C := R_BR) (T := T_BR) (N := 9) hx hb hts w_218 hown hK hP 0 rfl rfl 4 (by decide) (hts _ w_221) (fun _ h9 => h9) rfl d_BR_takeLiterals_16 ?_
    refine lv_aload_n hx hb d_BR_takeLiterals_19 rfl (lv_at hl 0 rfl) ?_
    refine va_get (D := (dC, dI)) (ci := 5) (v := .int b_at) (C := R_BR) (T := T_BR) (N := 9) hx hb hts w_218 hown hK hP 0 rfl rfl 3 (by decide) (hts _ w_220) (fun _ h9 => h9) rfl d_BR_takeLiterals_20 ?_
    refine lv_isub hx hb d_BR_takeLiterals_23 ?_
    refine lv_aload_n hx hb d_BR_takeLiterals_24 rfl (lv_at hl 0 rfl) ?_
    refine va_get (D := (dC, dI)) (ci := 5) (v := .int b_most) (C := R_BR) (T := T_BR) (N := 9) hx hb hts w_218 hown hK hP 0 rfl rfl 6 (by decide) (hts _ w_224) (fun _ h9 => h9) rfl d_BR_takeLiterals_25 ?_
    refine lv_aload_n hx hb d_BR_takeLiterals_28 rfl (lv_at hl 0 rfl) ?_
    refine va_get (D := (dC, dI)) (ci := 5) (v := .ref t) (C := R_BR) (T := T_BR) (N := 9) hx hb hts w_218 hown hK hP 0 rfl rfl 2 (by decide) (hts _ w_225) (fun _ h9 => h9) rfl d_BR_takeLiterals_29 ?_
    obtain ⟨r32, hc32, hf⟩ := bd1_some hf
    refine s_Vi (As := []) (rest := [.int b_most, .int (b_end - b_at), .int x1]) (wr := [(br, .inr (5, [.ref i, .ref h, .ref t, .int b_at, .int b_end, .int b_start, .int b_most, .int b_dist, .int b_place])), (i, .inr (1, [.ref ia, .int in])), (ia, .inl (cB, 8000, .inl if)), (ta, .inl (cB, 8000, .inl tf))]) (ws' := wd_BR_takeLiterals br i ia t ta h cB cI cJ b_at b_end b_start b_most b_dist b_place in if tn tf) C.call (c_Row_count l dC dI cB cI cJ t ta  tn  hc32) (cwV 0 hts (gd_V w_226 w_10 w_11 w_12 w_13) rfl rfl rfl ⟨rfl, hd_Row_count⟩ ⟨Nat.le_of_ble_eq_true rfl, Nat.le_of_ble_eq_true rfl⟩) rfl hl.1 rfl (Nat.le_of_ble_eq_true rfl) d_BR_takeLiterals_32 ⟨Nat.le_of_ble_eq_true rfl, Nat.le_of_ble_eq_true rfl⟩ hZ hK hP hD hS hA 1 3 rfl rfl [3] [0, 1, 2, 4] [0, 1, 2, 4, 3] rfl rfl rfl rfl (by decide) rfl rfl (fun H locs hP hD hS => ?_)
    refine lv_isub hx hb d_BR_takeLiterals_35 ?_
    refine s_mmin hx hb (hml.trans hl.1.symm) hown (hts _ w_240) (hts _ w_23) (hts _ w_24) (hts _ w_25) (Nat.le_of_ble_eq_true rfl) (Nat.le_of_ble_eq_true rfl) (Nat.zero_le _) (Nat.zero_le _) d_BR_takeLiterals_36 ?_
    refine s_mmin hx hb (hml.trans hl.1.symm) hown (hts _ w_240) (hts _ w_23) (hts _ w_24) (hts _ w_25) (Nat.le_of_ble_eq_true rfl) (Nat.le_of_ble_eq_true rfl) (Nat.zero_le _) (Nat.zero_le _) d_BR_takeLiterals_39 ?_
    refine lv_istore_n (lv' := [(2, .int (mn x1 (mn (b_end - b_at) (b_most - r32)))), (0, .ref br), (1, .int x1)]) hx hb d_BR_takeLiterals_42 rfl hl (by decide) rfl (fun ls hl => ?_)
    refine lv_aload_n hx hb d_BR_takeLiterals_43 rfl (lv_at hl 1 rfl) ?_
    refine va_get (D := (dC, dI)) (ci := 5) (v := .ref t) (C := R_BR) (T := T_BR) (N := 9) hx hb hts w_218 hown hK hP 0 rfl rfl 2 (by decide) (hts _ w_225) (fun _ h9 => h9) rfl d_BR_takeLiterals_44 ?_
    refine lv_aload_n hx hb d_BR_takeLiterals_47 rfl (lv_at hl 1 rfl) ?_
    refine va_get (D := (dC, dI)) (ci := 5) (v := .ref i) (C := R_BR) (T := T_BR) (N := 9) hx hb hts w_218 hown hK hP 0 rfl rfl 0 (by decide) (hts _ w_222) (fun _ h9 => h9) rfl d_BR_takeLiterals_48 ?_
    refine lv_aload_n hx hb d_BR_takeLiterals_51 rfl (lv_at hl 1 rfl) ?_
    refine va_get (D := (dC, dI)) (ci := 5) (v := .int b_at) (C := R_BR) (T := T_BR) (N := 9) hx hb hts w_218 hown hK hP 0 rfl rfl 3 (by decide) (hts _ w_220) (fun _ h9 => h9) rfl d_BR_takeLiterals_52 ?_
    refine lv_aload_n hx hb d_BR_takeLiterals_55 rfl (lv_at hl 1 rfl) ?_
    refine va_get (D := (dC, dI)) (ci := 5) (v := .int b_at) (C := R_BR) (T := T_BR) (N := 9) hx hb hts w_218 hown hK hP 0 rfl rfl 3 (by decide) (hts _ w_220) (fun _ h9 => h9) rfl d_BR_takeLiterals_56 ?_
    refine lv_iload_n hx hb d_BR_takeLiterals_59 rfl (lv_at hl 0 rfl) ?_
    refine lv_iadd hx hb d_BR_takeLiterals_60 ?_
    obtain ⟨r61, tn_61, tf_61, hc61, hf⟩ := bd3_some hf
    refine s_Vi (As := [.ref i, .int b_at, .int (b_at + (mn x1 (mn (b_end - b_at) (b_most - r32))))]) (rest := []) (wr := [(br, .inr (5, [.ref i, .ref h, .ref t, .int b_at, .int b_end, .int b_start, .int b_most, .int b_dist, .int b_place]))]) (ws' := wd_BR_takeLiterals br i ia t ta h cB cI cJ b_at b_end b_start b_most b_dist b_place in if tn_61 tf_61) C.call (c_Row_addFrom l dC dI cB cI cJ t ta i ia 8000 8000 tn tf in if b_at (b_at + (mn x1 (mn (b_end - b_at) (b_most - r32)))) hc61) (cwV 3 hts (gd_V w_241 w_19 w_20 w_12 w_21) rfl rfl rfl ⟨rfl, hd_Row_addFrom⟩ ⟨Nat.le_of_ble_eq_true rfl, Nat.le_of_ble_eq_true rfl⟩) rfl hl.1 rfl (Nat.le_of_ble_eq_true rfl) d_BR_takeLiterals_61 ⟨Nat.le_of_ble_eq_true rfl, Nat.le_of_ble_eq_true rfl⟩ hZ hK hP hD hS hA 1 3 rfl rfl [3, 4, 1, 2] [0] [0, 3, 4, 1, 2] rfl rfl rfl rfl (by decide) rfl rfl (fun H locs hP hD hS => ?_)
    refine lv_pop hx hb d_BR_takeLiterals_64 rfl ?_
    refine lv_aload_n hx hb d_BR_takeLiterals_65 rfl (lv_at hl 1 rfl) ?_
    refine lv_dup hx hb d_BR_takeLiterals_66 rfl ?_
    refine va_get (D := (dC, dI)) (ci := 5) (v := .int b_at) (C := R_BR) (T := T_BR) (N := 9) hx hb hts w_218 hown hK hP 0 rfl rfl 3 (by decide) (hts _ w_220) (fun _ h9 => h9) rfl d_BR_takeLiterals_67 ?_
    refine lv_iload_n hx hb d_BR_takeLiterals_70 rfl (lv_at hl 0 rfl) ?_
    refine lv_iadd hx hb d_BR_takeLiterals_71 ?_
    refine va_put (D := (dC, dI)) (ci := 5) (v := .int (b_at + (mn x1 (mn (b_end - b_at) (b_most - r32))))) (ty := .int) (C := R_BR) (T := T_BR) (N := 9) hx hb hts w_218 ty_BR ty_BR_ok nm_BR hown hK hP hD hS 0 rfl rfl 3 (by decide) (hts _ w_220) (fun _ h9 => h9) rfl (by decide +kernel) rfl rfl (Nat.le_of_ble_eq_true rfl) d_BR_takeLiterals_72 (fun H locs hP hD hS => ?_)
    have hP : va_P (dC, dI) vwCl (wd_BR_takeLiterals br i ia t ta h cB cI cJ (b_at + (mn x1 (mn (b_end - b_at) (b_most - r32)))) b_end b_start b_most b_dist b_place in if tn_61 tf_61) H := hP
    have hD : va_D A (wd_BR_takeLiterals br i ia t ta h cB cI cJ (b_at + (mn x1 (mn (b_end - b_at) (b_most - r32)))) b_end b_start b_most b_dist b_place in if tn_61 tf_61) := hD
    refine lv_iload_n hx hb d_BR_takeLiterals_75 rfl (lv_at hl 0 rfl) ?_
    refine lv_iload_n hx hb d_BR_takeLiterals_76 rfl (lv_at hl 2 rfl) ?_
    refine lv_icmp_ne (tgt := 82) hx hb d_BR_takeLiterals_77 (by decide) (fun c_77 => ?_) (fun c_77 => ?_)
    · have hf := br_neg c_77 hf
      refine lv_aload_n hx hb d_BR_takeLiterals_82 rfl (lv_at hl 1 rfl) ?_
      refine va_get (D := (dC, dI)) (ci := 5) (v := .int (b_at + (mn x1 (mn (b_end - b_at) (b_most - r32))))) (C := R_BR) (T := T_BR) (N := 9) hx hb hts w_218 hown hK hP 0 rfl rfl 3 (by decide) (hts _ w_220) (fun _ h9 => h9) rfl d_BR_takeLiterals_83 ?_
      refine lv_aload_n hx hb d_BR_takeLiterals_86 rfl (lv_at hl 1 rfl) ?_
      refine va_get (D := (dC, dI)) (ci := 5) (v := .int b_end) (C := R_BR) (T := T_BR) (N := 9) hx hb hts w_218 hown hK hP 0 rfl rfl 4 (by decide) (hts _ w_221) (fun _ h9 => h9) rfl d_BR_takeLiterals_87 ?_
      refine lv_icmp_lt (tgt := 105) hx hb d_BR_takeLiterals_90 (by decide) (fun c_90 => ?_) (fun c_90 => ?_)
      · have hf := br_pos c_90 hf
        refine lv_aload_n hx hb d_BR_takeLiterals_105 rfl (lv_at hl 1 rfl) ?_
        refine lv_iconst (v := 3) hx hb d_BR_takeLiterals_106 (by decide) ?_
        refine lv_aload_n hx hb d_BR_takeLiterals_107 rfl (lv_at hl 1 rfl) ?_
        refine va_get (D := (dC, dI)) (ci := 5) (v := .int (b_at + (mn x1 (mn (b_end - b_at) (b_most - r32))))) (C := R_BR) (T := T_BR) (N := 9) hx hb hts w_218 hown hK hP 0 rfl rfl 3 (by decide) (hts _ w_220) (fun _ h9 => h9) rfl d_BR_takeLiterals_108 ?_
        obtain ⟨r111, b_place_111, hc111, hf⟩ := bd2_some hf
        refine s_Vi (As := [.int (3 : Int32), .int (b_at + (mn x1 (mn (b_end - b_at) (b_most - r32))))]) (rest := []) (wr := [(i, .inr (1, [.ref ia, .int in])), (ia, .inl (cB, 8000, .inl if)), (t, .inr (1, [.ref ta, .int tn_61])), (ta, .inl (cB, 8000, .inl tf_61))]) (ws' := wd_BR_takeLiterals br i ia t ta h cB cI cJ (b_at + (mn x1 (mn (b_end - b_at) (b_most - r32)))) b_end b_start b_most b_dist b_place_111 in if tn_61 tf_61) C.call (c_BR_fault l dC dI cB cI cJ br i h t  (b_at + (mn x1 (mn (b_end - b_at) (b_most - r32)))) b_end b_start b_most b_dist b_place (3 : Int32) (b_at + (mn x1 (mn (b_end - b_at) (b_most - r32)))) hc111) (cwV 2 hts (gd_V w_231 w_232 w_233 w_234 w_235) rfl rfl rfl ⟨rfl, hd_BR_fault⟩ ⟨Nat.le_of_ble_eq_true rfl, Nat.le_of_ble_eq_true rfl⟩) rfl hl.1 rfl (Nat.le_of_ble_eq_true rfl) d_BR_takeLiterals_111 ⟨Nat.le_of_ble_eq_true rfl, Nat.le_of_ble_eq_true rfl⟩ hZ hK hP hD hS hA 5 0 rfl rfl [0] [1, 2, 3, 4] [4, 0, 1, 2, 3] rfl rfl rfl rfl (by decide) rfl rfl (fun H locs hP hD hS => ?_)
        cases hf
        exact s_iret hx hb hr hlocks hP hK hD hS d_BR_takeLiterals_114
      · have hf := br_neg c_90 hf
        refine lv_aload_n hx hb d_BR_takeLiterals_93 rfl (lv_at hl 1 rfl) ?_
        refine lv_iconst (v := 1) hx hb d_BR_takeLiterals_94 (by decide) ?_
        refine lv_aload_n hx hb d_BR_takeLiterals_95 rfl (lv_at hl 1 rfl) ?_
        refine va_get (D := (dC, dI)) (ci := 5) (v := .int b_end) (C := R_BR) (T := T_BR) (N := 9) hx hb hts w_218 hown hK hP 0 rfl rfl 4 (by decide) (hts _ w_221) (fun _ h9 => h9) rfl d_BR_takeLiterals_96 ?_
        obtain ⟨r99, b_place_99, hc99, hf⟩ := bd2_some hf
        refine s_Vi (As := [.int (1 : Int32), .int b_end]) (rest := []) (wr := [(i, .inr (1, [.ref ia, .int in])), (ia, .inl (cB, 8000, .inl if)), (t, .inr (1, [.ref ta, .int tn_61])), (ta, .inl (cB, 8000, .inl tf_61))]) (ws' := wd_BR_takeLiterals br i ia t ta h cB cI cJ (b_at + (mn x1 (mn (b_end - b_at) (b_most - r32)))) b_end b_start b_most b_dist b_place_99 in if tn_61 tf_61) C.call (c_BR_fault l dC dI cB cI cJ br i h t  (b_at + (mn x1 (mn (b_end - b_at) (b_most - r32)))) b_end b_start b_most b_dist b_place (1 : Int32) b_end hc99) (cwV 2 hts (gd_V w_231 w_232 w_233 w_234 w_235) rfl rfl rfl ⟨rfl, hd_BR_fault⟩ ⟨Nat.le_of_ble_eq_true rfl, Nat.le_of_ble_eq_true rfl⟩) rfl hl.1 rfl (Nat.le_of_ble_eq_true rfl) d_BR_takeLiterals_99 ⟨Nat.le_of_ble_eq_true rfl, Nat.le_of_ble_eq_true rfl⟩ hZ hK hP hD hS hA 5 0 rfl rfl [0] [1, 2, 3, 4] [4, 0, 1, 2, 3] rfl rfl rfl rfl (by decide) rfl rfl (fun H locs hP hD hS => ?_)
        refine lv_goto (tgt := 114) hx hb d_BR_takeLiterals_102 (by decide) ?_
        cases hf
        exact s_iret hx hb hr hlocks hP hK hD hS d_BR_takeLiterals_114
    · have hf := br_pos c_77 hf
      refine lv_iconst (v := 0) hx hb d_BR_takeLiterals_80 (by decide) ?_
      cases hf
      exact s_iret hx hb hr hlocks hP hK hD hS d_BR_takeLiterals_81
  · have hf := br_neg c_1 hf
    refine lv_aload_n hx hb d_BR_takeLiterals_4 rfl (lv_at hl 0 rfl) ?_
    refine lv_iconst (v := 1) hx hb d_BR_takeLiterals_5 (by decide) ?_
    refine lv_aload_n hx hb d_BR_takeLiterals_6 rfl (lv_at hl 0 rfl) ?_
    refine va_get (D := (dC, dI)) (ci := 5) (v := .int b_end) (C := R_BR) (T := T_BR) (N := 9) hx hb hts w_218 hown hK hP 0 rfl rfl 4 (by decide) (hts _ w_221) (fun _ h9 => h9) rfl d_BR_takeLiterals_7 ?_
    obtain ⟨r10, b_place_10, hc10, hf⟩ := bd2_some hf
    refine s_Vi (As := [.int (1 : Int32), .int b_end]) (rest := []) (wr := [(i, .inr (1, [.ref ia, .int in])), (ia, .inl (cB, 8000, .inl if)), (t, .inr (1, [.ref ta, .int tn])), (ta, .inl (cB, 8000, .inl tf))]) (ws' := wd_BR_takeLiterals br i ia t ta h cB cI cJ b_at b_end b_start b_most b_dist b_place_10 in if tn tf) C.call (c_BR_fault l dC dI cB cI cJ br i h t  b_at b_end b_start b_most b_dist b_place (1 : Int32) b_end hc10) (cwV 2 hts (gd_V w_231 w_232 w_233 w_234 w_235) rfl rfl rfl ⟨rfl, hd_BR_fault⟩ ⟨Nat.le_of_ble_eq_true rfl, Nat.le_of_ble_eq_true rfl⟩) rfl hl.1 rfl (Nat.le_of_ble_eq_true rfl) d_BR_takeLiterals_10 ⟨Nat.le_of_ble_eq_true rfl, Nat.le_of_ble_eq_true rfl⟩ hZ hK hP hD hS hA 5 0 rfl rfl [0] [1, 2, 3, 4] [4, 0, 1, 2, 3] rfl rfl rfl rfl (by decide) rfl rfl (fun H locs hP hD hS => ?_)
    cases hf
    exact s_iret hx hb hr hlocks hP hK hD hS d_BR_takeLiterals_13
end
noncomputable abbrev f_BR_takeLiterals (x1 : Int32) (b_at : Int32) (b_end : Int32) (b_most : Int32) (b_place : Int32) (in : Int32) (if : Nat → Int32) (tn : Int32) (tf : Nat → Int32) : Option (Int32 × Int32 × Int32 × Int32 × (Nat → Int32)) := j_BR_takeLiterals_0 x1 b_at b_end b_most b_place in if tn tf
set_option maxRecDepth 100000 in
theorem c_BR_takeLiterals (l : Launch) (dC : Nat → ClassId) (dI : Nat → Nat → Nat) (cB cI cJ : ClassId) (br i ia t ta h : Nat) (b_at : Int32) (b_end : Int32) (b_start : Int32) (b_most : Int32) (b_dist : Int32) (b_place : Int32) (in : Int32) (if : Nat → Int32) (tn : Int32) (tf : Nat → Int32) (x1 : Int32) {r_z : Int32} {b_at_z : Int32} {b_place_z : Int32} {tn_z : Int32} {tf_z : Nat → Int32} (hf : f_BR_takeLiterals x1 b_at b_end b_most b_place in if tn tf = some (r_z, b_at_z, b_place_z, tn_z, tf_z)) : MetI l y_BR_takeLiterals ws_BR_takeLiterals rm_BR_takeLiterals (dC, dI) vwCl [(cB, .byte), (cI, .int), (cJ, .long)] [.ref br, .int x1] (wd_BR_takeLiterals br i ia t ta h cB cI cJ b_at b_end b_start b_most b_dist b_place in if tn tf) r_z (wd_BR_takeLiterals br i ia t ta h cB cI cJ b_at_z b_end b_start b_most b_dist b_place_z in if tn_z tf_z) 0 0 :=
  s_ofi (bytes := cd_BR_takeLiterals) (maxL := 3) (ret := (some .int)) (by decide) rfl (Nat.le_of_ble_eq_true rfl) (fun p e s m below meth c A ls C hK hA hP hD hS hl => k_BR_takeLiterals_0 C hK hA x1 b_at b_end b_start b_most b_dist b_place in if tn tf hf hP hD hS (lv_sub hl [0, 1] rfl))

abbrev wd_BR_read (br i ia h ha t ta : Nat) (cB cI cJ : ClassId) (b_at : Int32) (b_end : Int32) (b_start : Int32) (b_most : Int32) (b_dist : Int32) (b_place : Int32) (in : Int32) (if : Nat → Int32) (hn : Int32) (hf : Nat → Int32) (tn : Int32) (tf : Nat → Int32) : va_W := [(br, .inr (5, [.ref i, .ref h, .ref t, .int b_at, .int b_end, .int b_start, .int b_most, .int b_dist, .int b_place])), (i, .inr (1, [.ref ia, .int in])), (ia, .inl (cB, 8000, .inl if)), (h, .inr (1, [.ref ha, .int hn])), (ha, .inl (cB, 8000, .inl hf)), (t, .inr (1, [.ref ta, .int tn])), (ta, .inl (cB, 8000, .inl tf))]
abbrev rm_BR_read : Room := { frames := 3, cells := 0, slots := 0, locals := 64 }
section
variable {p : Program} {l : Launch} {e : Env} {s : State} {m : MethodId} {args : Array Value} {below : List Frame} {meth : Method} {c : Code} {dC : Nat → ClassId} {dI : Nat → Nat → Nat} {A : Nat → Prop} {cB cI cJ : ClassId} {H : Heap} {locs : List Loc} {ls : Array Slot} {N : Nat} {br i ia h ha t ta : Nat}
noncomputable def j_BR_read_158 (x2 : Int32) (b_at : Int32) (b_end : Int32) (b_start : Int32) (b_most : Int32) (b_dist : Int32) (tn : Int32) (tf : Nat → Int32)  : Option (Int32 × Int32 × Int32 × Int32 × Int32 × Int32 × Int32 × Int32 × (Nat → Int32)) :=
  bd2 (f_BR_fault (1 : Int32) x2) (fun r161 b_place_161 => (some (r161, b_at, b_end, b_start, b_most, b_dist, b_place_161, tn, tf) : Option (Int32 × Int32 × Int32 × Int32 × Int32 × Int32 × Int32 × Int32 × (Nat → Int32))))
set_option maxHeartbeats 4000000 in
set_option maxRecDepth 100000 in
theorem k_BR_read_158 {r_z : Int32} {b_at_z : Int32} {b_end_z : Int32} {b_start_z : Int32} {b_most_z : Int32} {b_dist_z : Int32} {b_place_z : Int32} {tn_z : Int32} {tf_z : Nat → Int32} (C : Fx p s m args meth c cd_BR_read 9 R_BR lw_g (some .int)) (hK : va_K (dC, dI) vwCl [(cB, .byte), (cI, .int), (cJ, .long)] s) (hA : ∀ q, s.heap.size ≤ q → A q) (x2 : Int32) (b_at : Int32) (b_end : Int32) (b_start : Int32) (b_most : Int32) (b_dist : Int32) (b_place : Int32) (in : Int32) (if : Nat → Int32) (hn : Int32) (hf : Nat → Int32) (tn : Int32) (tf : Nat → Int32)  (hf : j_BR_read_158 x2 b_at b_end b_start b_most b_dist tn tf  = some (r_z, b_at_z, b_end_z, b_start_z, b_most_z, b_dist_z, b_place_z, tn_z, tf_z)) (hP : va_P (dC, dI) vwCl (wd_BR_read br i ia h ha t ta cB cI cJ b_at b_end b_start b_most b_dist b_place in if hn hf tn tf) H) (hD : va_D A (wd_BR_read br i ia h ha t ta cB cI cJ b_at b_end b_start b_most b_dist b_place in if hn hf tn tf)) (hS : va_S A s.heap H locs) (hl : lv_has ls 9 [(0, .ref br), (2, .int x2)]) : W p l e rm_BR_read s m args below meth c H locs 0 0 (MQ below (sQi (dC, dI) vwCl [(cB, .byte), (cI, .int), (cJ, .long)] A r_z (wd_BR_read br i ia h ha t ta cB cI cJ b_at_z b_end_z b_start_z b_most_z b_dist_z b_place_z in if hn hf tn_z tf_z)) args s 0 0 A) (F0 m 158 ls []) := by
  obtain ⟨hx, hb, hml, hown, hts, hr, hlocks, hZ⟩ := id C
  unfold j_BR_read_158 at hf
  refine lv_aload_n hx hb d_BR_read_158 rfl (lv_at hl 0 rfl) ?_
  refine lv_iconst (v := 1) hx hb d_BR_read_159 (by decide) ?_
  refine lv_iload_n hx hb d_BR_read_160 rfl (lv_at hl 1 rfl) ?_
  obtain ⟨r161, b_place_161, hc161, hf⟩ := bd2_some hf
  refine s_Vi (As := [.int (1 : Int32), .int x2]) (rest := []) (wr := [(i, .inr (1, [.ref ia, .int in])), (ia, .inl (cB, 8000, .inl if)), (h, .inr (1, [.ref ha, .int hn])), (ha, .inl (cB, 8000, .inl hf)), (t, .inr (1, [.ref ta, .int tn])), (ta, .inl (cB, 8000, .inl tf))]) (ws' := wd_BR_read br i ia h ha t ta cB cI cJ b_at b_end b_start b_most b_dist b_place_161 in if hn hf tn tf) C.call (c_BR_fault l dC dI cB cI cJ br i h t  b_at b_end b_start b_most b_dist b_place (1 : Int32) x2 hc161) (cwV 2 hts (gd_V w_231 w_232 w_233 w_234 w_235) rfl rfl rfl ⟨rfl, hd_BR_fault⟩ ⟨Nat.le_of_ble_eq_true rfl, Nat.le_of_ble_eq_true rfl⟩) rfl hl.1 rfl (Nat.le_of_ble_eq_true rfl) d_BR_read_161 ⟨Nat.le_of_ble_eq_true rfl, Nat.le_of_ble_eq_true rfl⟩ hZ hK hP hD hS hA 5 0 rfl rfl [0] [1, 2, 3, 4, 5, 6] [6, 0, 1, 2, 3, 4, 5] rfl rfl rfl rfl (by decide) rfl rfl (fun H locs hP hD hS => ?_)
  cases hf
  exact s_iret hx hb hr hlocks hP hK hD hS d_BR_read_164
noncomputable def j_BR_read_142 (x5 : Int32) (t0 : Int32) (b_at : Int32) (b_end : Int32) (b_start : Int32) (b_most : Int32) (b_dist : Int32) (b_place : Int32) (if : Nat → Int32) (tn : Int32) (tf : Nat → Int32) (kh24 : Int32 → Int32 → Int32 → Int32 → Int32 → (Nat → Int32) → Option (Int32 × Int32 × Int32 × Int32 × Int32 × Int32 × Int32 × Int32 × (Nat → Int32))) : Option (Int32 × Int32 × Int32 × Int32 × Int32 × Int32 × Int32 × Int32 × (Nat → Int32)) :=
  (if t0 = 0 then (kh24 (x5 + 1) b_at b_dist b_place tn tf) else (some (t0, b_at, b_end, b_start, b_most, b_dist, b_place, tn, tf) : Option (Int32 × Int32 × Int32 × Int32 × Int32 × Int32 × Int32 × Int32 × (Nat → Int32))))
set_option maxHeartbeats 4000000 in
set_option maxRecDepth 100000 in
theorem k_BR_read_142 {r_z : Int32} {b_at_z : Int32} {b_end_z : Int32} {b_start_z : Int32} {b_most_z : Int32} {b_dist_z : Int32} {b_place_z : Int32} {tn_z : Int32} {tf_z : Nat → Int32} (C : Fx p s m args meth c cd_BR_read 9 R_BR lw_g (some .int)) (hK : va_K (dC, dI) vwCl [(cB, .byte), (cI, .int), (cJ, .long)] s) (hA : ∀ q, s.heap.size ≤ q → A q) (x2 : Int32) (x5 : Int32) (t0 : Int32) (b_at : Int32) (b_end : Int32) (b_start : Int32) (b_most : Int32) (b_dist : Int32) (b_place : Int32) (in : Int32) (if : Nat → Int32) (hn : Int32) (hf : Nat → Int32) (tn : Int32) (tf : Nat → Int32) (kh24 : Int32 → Int32 → Int32 → Int32 → Int32 → (Nat → Int32) → Option (Int32 × Int32 × Int32 × Int32 × Int32 × Int32 × Int32 × Int32 × (Nat → Int32))) (ih24 : ∀ (x5 : Int32) (b_at : Int32) (b_dist : Int32) (b_place : Int32) (tn : Int32) (tf : Nat → Int32), kh24 x5 b_at b_dist b_place tn tf = some (r_z, b_at_z, b_end_z, b_start_z, b_most_z, b_dist_z, b_place_z, tn_z, tf_z) → ∀ (H : Heap) (locs : List Loc), va_P (dC, dI) vwCl (wd_BR_read br i ia h ha t ta cB cI cJ b_at b_end b_start b_most b_dist b_place in if hn hf tn tf) H → va_D A (wd_BR_read br i ia h ha t ta cB cI cJ b_at b_end b_start b_most b_dist b_place in if hn hf tn tf) → va_S A s.heap H locs → ∀ (ls : Array Slot), lv_has ls 9 [(0, .ref br), (2, .int x2), (5, .int x5)] → W p l e rm_BR_read s m args below meth c H locs 0 0 (MQ below (sQi (dC, dI) vwCl [(cB, .byte), (cI, .int), (cJ, .long)] A r_z (wd_BR_read br i ia h ha t ta cB cI cJ b_at_z b_end_z b_start_z b_most_z b_dist_z b_place_z in if hn hf tn_z tf_z)) args s 0 0 A) (F0 m 24 ls [])) (hf : j_BR_read_142 x5 t0 b_at b_end b_start b_most b_dist b_place if tn tf kh24 = some (r_z, b_at_z, b_end_z, b_start_z, b_most_z, b_dist_z, b_place_z, tn_z, tf_z)) (hP : va_P (dC, dI) vwCl (wd_BR_read br i ia h ha t ta cB cI cJ b_at b_end b_start b_most b_dist b_place in if hn hf tn tf) H) (hD : va_D A (wd_BR_read br i ia h ha t ta cB cI cJ b_at b_end b_start b_most b_dist b_place in if hn hf tn tf)) (hS : va_S A s.heap H locs) (hl : lv_has ls 9 [(0, .ref br), (2, .int x2), (5, .int x5)]) : W p l e rm_BR_read s m args below meth c H locs 0 0 (MQ below (sQi (dC, dI) vwCl [(cB, .byte), (cI, .int), (cJ, .long)] A r_z (wd_BR_read br i ia h ha t ta cB cI cJ b_at_z b_end_z b_start_z b_most_z b_dist_z b_place_z in if hn hf tn_z tf_z)) args s 0 0 A) (F0 m 142 ls [.int t0]) := by
  obtain ⟨hx, hb, hml, hown, hts, hr, hlocks, hZ⟩ := id C
  unfold j_BR_read_142 at hf
  refine lv_istore (lv' := [(7, .int t0), (0, .ref br), (2, .int x2), (5, .int x5)]) hx hb d_BR_read_142 hl (by decide) rfl (fun ls hl => ?_)
  refine lv_iload hx hb d_BR_read_144 (lv_at hl 0 rfl) ?_
  refine lv_if_eq (tgt := 152) hx hb d_BR_read_146 (by decide) (fun c_146 => ?_) (fun c_146 => ?_)
  · have hf := br_pos c_146 hf
    refine lv_iinc (v := (x5 + 1)) (lv' := [(5, .int (x5 + 1)), (7, .int t0), (0, .ref br), (2, .int x2)]) hx hb d_BR_read_152 hl (k := 3) rfl (congrArg (fun z => x5 + z) (by decide)) (by decide) rfl (fun ls hl => ?_)
    refine lv_goto (tgt := 24) hx hb d_BR_read_155 (by decide) ?_
    exact ih24 (x5 + 1) b_at b_dist b_place tn tf hf _ _ hP hD hS _ (lv_sub hl [2, 3, 0] rfl)
  · have hf := br_neg c_146 hf
    refine lv_iload hx hb d_BR_read_149 (lv_at hl 0 rfl) ?_
    cases hf
    exact s_iret hx hb hr hlocks hP hK hD hS d_BR_read_151
noncomputable def j_BR_read_115 (N : Nat) (x5 : Int32) (x6 : Int32) (x8 : Int32) (t0 : Int32) (b_at : Int32) (b_end : Int32) (b_start : Int32) (b_most : Int32) (b_dist : Int32) (b_place : Int32) (in : Int32) (if : Nat → Int32) (hn : Int32) (hf : Nat → Int32) (tn : Int32) (tf : Nat → Int32) (kh24 : Int32 → Int32 → Int32 → Int32 → Int32 → (Nat → Int32) → Option (Int32 × Int32 × Int32 × Int32 × Int32 × Int32 × Int32 × Int32 × (Nat → Int32))) : Option (Int32 × Int32 × Int32 × Int32 × Int32 × Int32 × Int32 × Int32 × (Nat → Int32)) :=
  (if t0 = 0 then bd2 (f_BR_grown N (x6 &&& (15 : Int32)) b_at b_end in if) (fun r134 b_at_134 => bd4 (f_BR_takeCopy N r134 x8 b_end b_start b_most b_dist b_place hn hf tn tf) (fun r139 b_place_139 tn_139 tf_139 => (j_BR_read_142 x5 r139 b_at_134 b_end b_start b_most b_dist b_place_139 if tn_139 tf_139 kh24))) else (j_BR_read_142 x5 t0 b_at b_end b_start b_most b_dist b_place if tn tf kh24))
set_option maxHeartbeats 4000000 in
set_option maxRecDepth 100000 in
theorem k_BR_read_115 {r_z : Int32} {b_at_z : Int32} {b_end_z : Int32} {b_start_z : Int32} {b_most_z : Int32} {b_dist_z : Int32} {b_place_z : Int32} {tn_z : Int32} {tf_z : Nat → Int32} (C : Fx p s m args meth c cd_BR_read 9 R_BR lw_g (some .int)) (hK : va_K (dC, dI) vwCl [(cB, .byte), (cI, .int), (cJ, .long)] s) (hA : ∀ q, s.heap.size ≤ q → A q) (x2 : Int32) (x5 : Int32) (x6 : Int32) (x8 : Int32) (t0 : Int32) (b_at : Int32) (b_end : Int32) (b_start : Int32) (b_most : Int32) (b_dist : Int32) (b_place : Int32) (in : Int32) (if : Nat → Int32) (hn : Int32) (hf : Nat → Int32) (tn : Int32) (tf : Nat → Int32) (kh24 : Int32 → Int32 → Int32 → Int32 → Int32 → (Nat → Int32) → Option (Int32 × Int32 × Int32 × Int32 × Int32 × Int32 × Int32 × Int32 × (Nat → Int32))) (ih24 : ∀ (x5 : Int32) (b_at : Int32) (b_dist : Int32) (b_place : Int32) (tn : Int32) (tf : Nat → Int32), kh24 x5 b_at b_dist b_place tn tf = some (r_z, b_at_z, b_end_z, b_start_z, b_most_z, b_dist_z, b_place_z, tn_z, tf_z) → ∀ (H : Heap) (locs : List Loc), va_P (dC, dI) vwCl (wd_BR_read br i ia h ha t ta cB cI cJ b_at b_end b_start b_most b_dist b_place in if hn hf tn tf) H → va_D A (wd_BR_read br i ia h ha t ta cB cI cJ b_at b_end b_start b_most b_dist b_place in if hn hf tn tf) → va_S A s.heap H locs → ∀ (ls : Array Slot), lv_has ls 9 [(0, .ref br), (2, .int x2), (5, .int x5)] → W p l e rm_BR_read s m args below meth c H locs 0 0 (MQ below (sQi (dC, dI) vwCl [(cB, .byte), (cI, .int), (cJ, .long)] A r_z (wd_BR_read br i ia h ha t ta cB cI cJ b_at_z b_end_z b_start_z b_most_z b_dist_z b_place_z in if hn hf tn_z tf_z)) args s 0 0 A) (F0 m 24 ls [])) (hf : j_BR_read_115 N x5 x6 x8 t0 b_at b_end b_start b_most b_dist b_place in if hn hf tn tf kh24 = some (r_z, b_at_z, b_end_z, b_start_z, b_most_z, b_dist_z, b_place_z, tn_z, tf_z)) (hP : va_P (dC, dI) vwCl (wd_BR_read br i ia h ha t ta cB cI cJ b_at b_end b_start b_most b_dist b_place in if hn hf tn tf) H) (hD : va_D A (wd_BR_read br i ia h ha t ta cB cI cJ b_at b_end b_start b_most b_dist b_place in if hn hf tn tf)) (hS : va_S A s.heap H locs) (hl : lv_has ls 9 [(0, .ref br), (2, .int x2), (5, .int x5), (6, .int x6), (8, .int x8)]) : W p l e rm_BR_read s m args below meth c H locs 0 0 (MQ below (sQi (dC, dI) vwCl [(cB, .byte), (cI, .int), (cJ, .long)] A r_z (wd_BR_read br i ia h ha t ta cB cI cJ b_at_z b_end_z b_start_z b_most_z b_dist_z b_place_z in if hn hf tn_z tf_z)) args s 0 0 A) (F0 m 115 ls [.int t0]) := by
  obtain ⟨hx, hb, hml, hown, hts, hr, hlocks, hZ⟩ := id C
  unfold j_BR_read_115 at hf
  refine lv_istore (lv' := [(7, .int t0), (0, .ref br), (2, .int x2), (5, .int x5), (6, .int x6), (8, .int x8)]) hx hb d_BR_read_115 hl (by decide) rfl (fun ls hl => ?_)
  refine lv_iload hx hb d_BR_read_117 (lv_at hl 0 rfl) ?_
  refine lv_if_eq (tgt := 127) hx hb d_BR_read_119 (by decide) (fun c_119 => ?_) (fun c_119 => ?_)
  · have hf := br_pos c_119 hf
    refine lv_aload_n hx hb d_BR_read_127 rfl (lv_at hl 1 rfl) ?_
    refine lv_aload_n hx hb d_BR_read_128 rfl (lv_at hl 1 rfl) ?_
    refine lv_iload hx hb d_BR_read_129 (lv_at hl 4 rfl) ?_
    refine lv_bipush (v := 15) hx hb d_BR_read_131 (by decide) ?_
    refine lv_iand hx hb d_BR_read_133 ?_
    obtain ⟨r134, b_at_134, hc134, hf⟩ := bd2_some hf
    refine s_Vi (As := [.int (x6 &&& (15 : Int32))]) (rest := [.ref br]) (wr := [(h, .inr (1, [.ref ha, .int hn])), (ha, .inl (cB, 8000, .inl hf)), (t, .inr (1, [.ref ta, .int tn])), (ta, .inl (cB, 8000, .inl tf))]) (ws' := wd_BR_read br i ia h ha t ta cB cI cJ b_at_134 b_end b_start b_most b_dist b_place in if hn hf tn tf) C.call (c_BR_grown l dC dI cB cI cJ br i ia h t  b_at b_end b_start b_most b_dist b_place in if (x6 &&& (15 : Int32)) hc134) (cwV 1 hts (gd_V w_242 w_243 w_244 w_234 w_245) rfl rfl rfl ⟨rfl, hd_BR_grown⟩ ⟨Nat.le_of_ble_eq_true rfl, Nat.le_of_ble_eq_true rfl⟩) rfl hl.1 rfl (Nat.le_of_ble_eq_true rfl) d_BR_read_134 ⟨Nat.le_of_ble_eq_true rfl, Nat.le_of_ble_eq_true rfl⟩ hZ hK hP hD hS hA 5 0 rfl rfl [0, 1, 2] [3, 4, 5, 6] [4, 5, 6, 0, 1, 2, 3] rfl rfl rfl rfl (by decide) rfl rfl (fun H locs hP hD hS => ?_)
    refine lv_iload hx hb d_BR_read_137 (lv_at hl 5 rfl) ?_
    obtain ⟨r139, b_place_139, tn_139, tf_139, hc139, hf⟩ := bd4_some hf
    refine s_Vi (As := [.int r134, .int x8]) (rest := []) (wr := [(i, .inr (1, [.ref ia, .int in])), (ia, .inl (cB, 8000, .inl if))]) (ws' := wd_BR_read br i ia h ha t ta cB cI cJ b_at_134 b_end b_start b_most b_dist b_place_139 in if hn hf tn_139 tf_139) C.call (c_BR_takeCopy l dC dI cB cI cJ br h ha t ta i  b_at_134 b_end b_start b_most b_dist b_place hn hf tn tf r134 x8 hc139) (cwV 2 hts (gd_V w_254 w_255 w_256 w_234 w_257) rfl rfl rfl ⟨rfl, hd_BR_takeCopy⟩ ⟨Nat.le_of_ble_eq_true rfl, Nat.le_of_ble_eq_true rfl⟩) rfl hl.1 rfl (Nat.le_of_ble_eq_true rfl) d_BR_read_139 ⟨Nat.le_of_ble_eq_true rfl, Nat.le_of_ble_eq_true rfl⟩ hZ hK hP hD hS hA 5 0 rfl rfl [0, 3, 4, 5, 6] [1, 2] [2, 0, 1, 3, 4, 5, 6] rfl rfl rfl rfl (by decide) rfl rfl (fun H locs hP hD hS => ?_)
    exact k_BR_read_142 C hK hA x2 x5 r139 b_at_134 b_end b_start b_most b_dist b_place_139 in if hn hf tn_139 tf_139 kh24 ih24 hf hP hD hS (lv_sub hl [1, 2, 3] rfl)
  · have hf := br_neg c_119 hf
    refine lv_iload hx hb d_BR_read_122 (lv_at hl 0 rfl) ?_
    refine lv_goto (tgt := 142) hx hb d_BR_read_124 (by decide) ?_
    exact k_BR_read_142 C hK hA x2 x5 t0 b_at b_end b_start b_most b_dist b_place in if hn hf tn tf kh24 ih24 hf hP hD hS (lv_sub hl [1, 2, 3] rfl)
noncomputable def j_BR_read_95 (N : Nat) (x5 : Int32) (x6 : Int32) (x7 : Int32) (b_at : Int32) (b_end : Int32) (b_start : Int32) (b_most : Int32) (b_dist : Int32) (b_place : Int32) (in : Int32) (if : Nat → Int32) (hn : Int32) (hf : Nat → Int32) (tn : Int32) (tf : Nat → Int32) (kh24 : Int32 → Int32 → Int32 → Int32 → Int32 → (Nat → Int32) → Option (Int32 × Int32 × Int32 × Int32 × Int32 × Int32 × Int32 × Int32 × (Nat → Int32))) : Option (Int32 × Int32 × Int32 × Int32 × Int32 × Int32 × Int32 × Int32 × (Nat → Int32)) :=
  (if x7 = 0 then bd4 (f_BR_takeDistance b_at b_end b_start b_dist b_place in if hn tn) (fun r112 b_at_112 b_dist_112 b_place_112 => (j_BR_read_115 N x5 x6 b_at r112 b_at_112 b_end b_start b_most b_dist_112 b_place_112 in if hn hf tn tf kh24)) else (j_BR_read_115 N x5 x6 b_at x7 b_at b_end b_start b_most b_dist b_place in if hn hf tn tf kh24))
set_option maxHeartbeats 4000000 in
set_option maxRecDepth 100000 in
theorem k_BR_read_95 {r_z : Int32} {b_at_z : Int32} {b_end_z : Int32} {b_start_z : Int32} {b_most_z : Int32} {b_dist_z : Int32} {b_place_z : Int32} {tn_z : Int32} {tf_z : Nat → Int32} (C : Fx p s m args meth c cd_BR_read 9 R_BR lw_g (some .int)) (hK : va_K (dC, dI) vwCl [(cB, .byte), (cI, .int), (cJ, .long)] s) (hA : ∀ q, s.heap.size ≤ q → A q) (x2 : Int32) (x5 : Int32) (x6 : Int32) (x7 : Int32) (b_at : Int32) (b_end : Int32) (b_start : Int32) (b_most : Int32) (b_dist : Int32) (b_place : Int32) (in : Int32) (if : Nat → Int32) (hn : Int32) (hf : Nat → Int32) (tn : Int32) (tf : Nat → Int32) (kh24 : Int32 → Int32 → Int32 → Int32 → Int32 → (Nat → Int32) → Option (Int32 × Int32 × Int32 × Int32 × Int32 × Int32 × Int32 × Int32 × (Nat → Int32))) (ih24 : ∀ (x5 : Int32) (b_at : Int32) (b_dist : Int32) (b_place : Int32) (tn : Int32) (tf : Nat → Int32), kh24 x5 b_at b_dist b_place tn tf = some (r_z, b_at_z, b_end_z, b_start_z, b_most_z, b_dist_z, b_place_z, tn_z, tf_z) → ∀ (H : Heap) (locs : List Loc), va_P (dC, dI) vwCl (wd_BR_read br i ia h ha t ta cB cI cJ b_at b_end b_start b_most b_dist b_place in if hn hf tn tf) H → va_D A (wd_BR_read br i ia h ha t ta cB cI cJ b_at b_end b_start b_most b_dist b_place in if hn hf tn tf) → va_S A s.heap H locs → ∀ (ls : Array Slot), lv_has ls 9 [(0, .ref br), (2, .int x2), (5, .int x5)] → W p l e rm_BR_read s m args below meth c H locs 0 0 (MQ below (sQi (dC, dI) vwCl [(cB, .byte), (cI, .int), (cJ, .long)] A r_z (wd_BR_read br i ia h ha t ta cB cI cJ b_at_z b_end_z b_start_z b_most_z b_dist_z b_place_z in if hn hf tn_z tf_z)) args s 0 0 A) (F0 m 24 ls [])) (hf : j_BR_read_95 N x5 x6 x7 b_at b_end b_start b_most b_dist b_place in if hn hf tn tf kh24 = some (r_z, b_at_z, b_end_z, b_start_z, b_most_z, b_dist_z, b_place_z, tn_z, tf_z)) (hP : va_P (dC, dI) vwCl (wd_BR_read br i ia h ha t ta cB cI cJ b_at b_end b_start b_most b_dist b_place in if hn hf tn tf) H) (hD : va_D A (wd_BR_read br i ia h ha t ta cB cI cJ b_at b_end b_start b_most b_dist b_place in if hn hf tn tf)) (hS : va_S A s.heap H locs) (hl : lv_has ls 9 [(0, .ref br), (2, .int x2), (5, .int x5), (6, .int x6), (7, .int x7)]) : W p l e rm_BR_read s m args below meth c H locs 0 0 (MQ below (sQi (dC, dI) vwCl [(cB, .byte), (cI, .int), (cJ, .long)] A r_z (wd_BR_read br i ia h ha t ta cB cI cJ b_at_z b_end_z b_start_z b_most_z b_dist_z b_place_z in if hn hf tn_z tf_z)) args s 0 0 A) (F0 m 95 ls []) := by
  obtain ⟨hx, hb, hml, hown, hts, hr, hlocks, hZ⟩ := id C
  unfold j_BR_read_95 at hf
  refine lv_aload_n hx hb d_BR_read_95 rfl (lv_at hl 0 rfl) ?_
  refine va_get (D := (dC, dI)) (ci := 5) (v := .int b_at) (C := R_BR) (T := T_BR) (N := 9) hx hb hts w_218 hown hK hP 0 rfl rfl 3 (by decide) (hts _ w_220) (fun _ h9 => h9) rfl d_BR_read_96 ?_
  refine lv_istore (lv' := [(8, .int b_at), (0, .ref br), (2, .int x2), (5, .int x5), (6, .int x6), (7, .int x7)]) hx hb d_BR_read_99 hl (by decide) rfl (fun ls hl => ?_)
  refine lv_iload hx hb d_BR_read_101 (lv_at hl 5 rfl) ?_
  refine lv_if_eq (tgt := 111) hx hb d_BR_read_103 (by decide) (fun c_103 => ?_) (fun c_103 => ?_)
  · have hf := br_pos c_103 hf
    refine lv_aload_n hx hb d_BR_read_111 rfl (lv_at hl 1 rfl) ?_
    obtain ⟨r112, b_at_112, b_dist_112, b_place_112, hc112, hf⟩ := bd4_some hf
    refine s_Vi (As := []) (rest := []) (wr := [(ha, .inl (cB, 8000, .inl hf)), (ta, .inl (cB, 8000, .inl tf))]) (ws' := wd_BR_read br i ia h ha t ta cB cI cJ b_at_112 b_end b_start b_most b_dist_112 b_place_112 in if hn hf tn tf) C.call (c_BR_takeDistance l dC dI cB cI cJ br i ia h t ha ta  b_at b_end b_start b_most b_dist b_place in if hn tn  hc112) (cwV 0 hts (gd_V w_250 w_251 w_252 w_234 w_253) rfl rfl rfl ⟨rfl, hd_BR_takeDistance⟩ ⟨Nat.le_of_ble_eq_true rfl, Nat.le_of_ble_eq_true rfl⟩) rfl hl.1 rfl (Nat.le_of_ble_eq_true rfl) d_BR_read_112 ⟨Nat.le_of_ble_eq_true rfl, Nat.le_of_ble_eq_true rfl⟩ hZ hK hP hD hS hA 5 0 rfl rfl [0, 1, 2, 3, 5] [4, 6] [2, 3, 4, 5, 0, 6, 1] rfl rfl rfl rfl (by decide) rfl rfl (fun H locs hP hD hS => ?_)
    exact k_BR_read_115 C hK hA x2 x5 x6 b_at r112 b_at_112 b_end b_start b_most b_dist_112 b_place_112 in if hn hf tn tf kh24 ih24 hf hP hD hS (lv_sub hl [1, 2, 3, 4, 0] rfl)
  · have hf := br_neg c_103 hf
    refine lv_iload hx hb d_BR_read_106 (lv_at hl 5 rfl) ?_
    refine lv_goto (tgt := 115) hx hb d_BR_read_108 (by decide) ?_
    exact k_BR_read_115 C hK hA x2 x5 x6 b_at x7 b_at b_end b_start b_most b_dist b_place in if hn hf tn tf kh24 ih24 hf hP hD hS (lv_sub hl [1, 2, 3, 4, 0] rfl)
noncomputable def b_BR_read_24 (N : Nat) (x2 : Int32) (b_end : Int32) (b_start : Int32) (b_most : Int32) (in : Int32) (if : Nat → Int32) (hn : Int32) (hf : Nat → Int32)  (kh24 : Int32 → Int32 → Int32 → Int32 → Int32 → (Nat → Int32) → Option (Int32 × Int32 × Int32 × Int32 × Int32 × Int32 × Int32 × Int32 × (Nat → Int32))) (x5 : Int32) (b_at : Int32) (b_dist : Int32) (b_place : Int32) (tn : Int32) (tf : Nat → Int32) : Option (Int32 × Int32 × Int32 × Int32 × Int32 × Int32 × Int32 × Int32 × (Nat → Int32)) :=
  (if x2 ≤ x5 then (j_BR_read_158 x2 b_at b_end b_start b_most b_dist tn tf ) else (if x2 ≤ b_at then (j_BR_read_158 x2 b_at b_end b_start b_most b_dist tn tf ) else bd1 (f_Row_get 8000 b_at in if) (fun r46 => bd2 (f_BR_grown N (r46 >>> ((4 : Int32) &&& 31)) (b_at + (1 : Int32)) b_end in if) (fun r67 b_at_67 => bd5 (f_BR_takeLiterals r67 b_at_67 b_end b_most b_place in if tn tf) (fun r70 b_at_70 b_place_70 tn_70 tf_70 => (if r70 = 0 then (if b_at_70 < x2 then (j_BR_read_95 N x5 r46 r70 b_at_70 b_end b_start b_most b_dist b_place_70 in if hn hf tn_70 tf_70 kh24) else (some ((0 : Int32), b_at_70, b_end, b_start, b_most, b_dist, x2, tn_70, tf_70) : Option (Int32 × Int32 × Int32 × Int32 × Int32 × Int32 × Int32 × Int32 × (Nat → Int32)))) else (j_BR_read_95 N x5 r46 r70 b_at_70 b_end b_start b_most b_dist b_place_70 in if hn hf tn_70 tf_70 kh24)))))))
set_option maxHeartbeats 4000000 in
set_option maxRecDepth 100000 in
theorem k_BR_read_24 {r_z : Int32} {b_at_z : Int32} {b_end_z : Int32} {b_start_z : Int32} {b_most_z : Int32} {b_dist_z : Int32} {b_place_z : Int32} {tn_z : Int32} {tf_z : Nat → Int32} (C : Fx p s m args meth c cd_BR_read 9 R_BR lw_g (some .int)) (hK : va_K (dC, dI) vwCl [(cB, .byte), (cI, .int), (cJ, .long)] s) (hA : ∀ q, s.heap.size ≤ q → A q) (x2 : Int32) (b_end : Int32) (b_start : Int32) (b_most : Int32) (in : Int32) (if : Nat → Int32) (hn : Int32) (hf : Nat → Int32)  : ∀ (n : Nat) (x5 : Int32) (b_at : Int32) (b_dist : Int32) (b_place : Int32) (tn : Int32) (tf : Nat → Int32), loop6 (b_BR_read_24 N x2 b_end b_start b_most in if hn hf ) n x5 b_at b_dist b_place tn tf = some (r_z, b_at_z, b_end_z, b_start_z, b_most_z, b_dist_z, b_place_z, tn_z, tf_z) → ∀ (H : Heap) (locs : List Loc), va_P (dC, dI) vwCl (wd_BR_read br i ia h ha t ta cB cI cJ b_at b_end b_start b_most b_dist b_place in if hn hf tn tf) H → va_D A (wd_BR_read br i ia h ha t ta cB cI cJ b_at b_end b_start b_most b_dist b_place in if hn hf tn tf) → va_S A s.heap H locs → ∀ (ls : Array Slot), lv_has ls 9 [(0, .ref br), (2, .int x2), (5, .int x5)] → W p l e rm_BR_read s m args below meth c H locs 0 0 (MQ below (sQi (dC, dI) vwCl [(cB, .byte), (cI, .int), (cJ, .long)] A r_z (wd_BR_read br i ia h ha t ta cB cI cJ b_at_z b_end_z b_start_z b_most_z b_dist_z b_place_z in if hn hf tn_z tf_z)) args s 0 0 A) (F0 m 24 ls []) := by
  obtain ⟨hx, hb, hml, hown, hts, hr, hlocks, hZ⟩ := id C
  intro n
  induction n with
  | zero => intro x5 b_at b_dist b_place tn tf hf; cases hf
  | succ n ih24 =>
    intro x5 b_at b_dist b_place tn tf hf H locs hP hD hS ls hl
    have hf : b_BR_read_24 N x2 b_end b_start b_most in if hn hf  (loop6 (b_BR_read_24 N x2 b_end b_start b_most in if hn hf ) n) x5 b_at b_dist b_place tn tf = some (r_z, b_at_z, b_end_z, b_start_z, b_most_z, b_dist_z, b_place_z, tn_z, tf_z) := hf
    generalize loop6 (b_BR_read_24 N x2 b_end b_start b_most in if hn hf ) n = kh24 at hf ih24
    unfold b_BR_read_24 at hf
    refine lv_iload hx hb d_BR_read_24 (lv_at hl 2 rfl) ?_
    refine lv_iload_n hx hb d_BR_read_26 rfl (lv_at hl 1 rfl) ?_
    refine lv_icmp_ge (tgt := 158) hx hb d_BR_read_27 (by decide) (fun c_27 => ?_) (fun c_27 => ?_)
    · have hf := br_pos c_27 hf
      exact k_BR_read_158 C hK hA x2 b_at b_end b_start b_most b_dist b_place in if hn hf tn tf  hf hP hD hS (lv_sub hl [0, 1] rfl)
    · have hf := br_neg c_27 hf
      refine lv_aload_n hx hb d_BR_read_30 rfl (lv_at hl 0 rfl) ?_
      refine va_get (D := (dC, dI)) (ci := 5) (v := .int b_at) (C := R_BR) (T := T_BR) (N := 9) hx hb hts w_218 hown hK hP 0 rfl rfl 3 (by decide) (hts _ w_220) (fun _ h9 => h9) rfl d_BR_read_31 ?_
      refine lv_iload_n hx hb d_BR_read_34 rfl (lv_at hl 1 rfl) ?_
      refine lv_icmp_ge (tgt := 158) hx hb d_BR_read_35 (by decide) (fun c_35 => ?_) (fun c_35 => ?_)
      · have hf := br_pos c_35 hf
        exact k_BR_read_158 C hK hA x2 b_at b_end b_start b_most b_dist b_place in if hn hf tn tf  hf hP hD hS (lv_sub hl [0, 1] rfl)
      · have hf := br_neg c_35 hf
        refine lv_aload_n hx hb d_BR_read_38 rfl (lv_at hl 0 rfl) ?_
        refine va_get (D := (dC, dI)) (ci := 5) (v := .ref i) (C := R_BR) (T := T_BR) (N := 9) hx hb hts w_218 hown hK hP 0 rfl rfl 0 (by decide) (hts _ w_222) (fun _ h9 => h9) rfl d_BR_read_39 ?_
        refine lv_aload_n hx hb d_BR_read_42 rfl (lv_at hl 0 rfl) ?_
        refine va_get (D := (dC, dI)) (ci := 5) (v := .int b_at) (C := R_BR) (T := T_BR) (N := 9) hx hb hts w_218 hown hK hP 0 rfl rfl 3 (by decide) (hts _ w_220) (fun _ h9 => h9) rfl d_BR_read_43 ?_
        obtain ⟨r46, hc46, hf⟩ := bd1_some hf
        refine s_Vi (As := [.int b_at]) (rest := []) (wr := [(br, .inr (5, [.ref i, .ref h, .ref t, .int b_at, .int b_end, .int b_start, .int b_most, .int b_dist, .int b_place])), (h, .inr (1, [.ref ha, .int hn])), (ha, .inl (cB, 8000, .inl hf)), (t, .inr (1, [.ref ta, .int tn])), (ta, .inl (cB, 8000, .inl tf))]) (ws' := wd_BR_read br i ia h ha t ta cB cI cJ b_at b_end b_start b_most b_dist b_place in if hn hf tn tf) C.call (c_Row_get l dC dI cB cI cJ i ia 8000 in if b_at hc46) (cwV 1 hts (gd_V w_223 w_72 w_73 w_12 w_74) rfl rfl rfl ⟨rfl, hd_Row_get⟩ ⟨Nat.le_of_ble_eq_true rfl, Nat.le_of_ble_eq_true rfl⟩) rfl hl.1 rfl (Nat.le_of_ble_eq_true rfl) d_BR_read_46 ⟨Nat.le_of_ble_eq_true rfl, Nat.le_of_ble_eq_true rfl⟩ hZ hK hP hD hS hA 1 1 rfl rfl [1, 2] [0, 3, 4, 5, 6] [0, 5, 6, 1, 2, 3, 4] rfl rfl rfl rfl (by decide) rfl rfl (fun H locs hP hD hS => ?_)
        refine lv_istore (lv' := [(6, .int r46), (0, .ref br), (2, .int x2), (5, .int x5)]) hx hb d_BR_read_49 hl (by decide) rfl (fun ls hl => ?_)
        refine lv_aload_n hx hb d_BR_read_51 rfl (lv_at hl 1 rfl) ?_
        refine lv_dup hx hb d_BR_read_52 rfl ?_
        refine va_get (D := (dC, dI)) (ci := 5) (v := .int b_at) (C := R_BR) (T := T_BR) (N := 9) hx hb hts w_218 hown hK hP 0 rfl rfl 3 (by decide) (hts _ w_220) (fun _ h9 => h9) rfl d_BR_read_53 ?_
        refine lv_iconst (v := 1) hx hb d_BR_read_56 (by decide) ?_
        refine lv_iadd hx hb d_BR_read_57 ?_
        refine va_put (D := (dC, dI)) (ci := 5) (v := .int (b_at + (1 : Int32))) (ty := .int) (C := R_BR) (T := T_BR) (N := 9) hx hb hts w_218 ty_BR ty_BR_ok nm_BR hown hK hP hD hS 0 rfl rfl 3 (by decide) (hts _ w_220) (fun _ h9 => h9) rfl (by decide +kernel) rfl rfl (Nat.le_of_ble_eq_true rfl) d_BR_read_58 (fun H locs hP hD hS => ?_)
        have hP : va_P (dC, dI) vwCl (wd_BR_read br i ia h ha t ta cB cI cJ (b_at + (1 : Int32)) b_end b_start b_most b_dist b_place in if hn hf tn tf) H := hP
        have hD : va_D A (wd_BR_read br i ia h ha t ta cB cI cJ (b_at + (1 : Int32)) b_end b_start b_most b_dist b_place in if hn hf tn tf) := hD
        refine lv_aload_n hx hb d_BR_read_61 rfl (lv_at hl 1 rfl) ?_
        refine lv_aload_n hx hb d_BR_read_62 rfl (lv_at hl 1 rfl) ?_
        refine lv_iload hx hb d_BR_read_63 (lv_at hl 0 rfl) ?_
        refine lv_iconst (v := 4) hx hb d_BR_read_65 (by decide) ?_
        refine lv_ishr hx hb d_BR_read_66 ?_
        obtain ⟨r67, b_at_67, hc67, hf⟩ := bd2_some hf
        refine s_Vi (As := [.int (r46 >>> ((4 : Int32) &&& 31))]) (rest := [.ref br]) (wr := [(h, .inr (1, [.ref ha, .int hn])), (ha, .inl (cB, 8000, .inl hf)), (t, .inr (1, [.ref ta, .int tn])), (ta, .inl (cB, 8000, .inl tf))]) (ws' := wd_BR_read br i ia h ha t ta cB cI cJ b_at_67 b_end b_start b_most b_dist b_place in if hn hf tn tf) C.call (c_BR_grown l dC dI cB cI cJ br i ia h t  (b_at + (1 : Int32)) b_end b_start b_most b_dist b_place in if (r46 >>> ((4 : Int32) &&& 31)) hc67) (cwV 1 hts (gd_V w_242 w_243 w_244 w_234 w_245) rfl rfl rfl ⟨rfl, hd_BR_grown⟩ ⟨Nat.le_of_ble_eq_true rfl, Nat.le_of_ble_eq_true rfl⟩) rfl hl.1 rfl (Nat.le_of_ble_eq_true rfl) d_BR_read_67 ⟨Nat.le_of_ble_eq_true rfl, Nat.le_of_ble_eq_true rfl⟩ hZ hK hP hD hS hA 5 0 rfl rfl [0, 1, 2] [3, 4, 5, 6] [4, 5, 6, 0, 1, 2, 3] rfl rfl rfl rfl (by decide) rfl rfl (fun H locs hP hD hS => ?_)
        obtain ⟨r70, b_at_70, b_place_70, tn_70, tf_70, hc70, hf⟩ := bd5_some hf
        refine s_Vi (As := [.int r67]) (rest := []) (wr := [(h, .inr (1, [.ref ha, .int hn])), (ha, .inl (cB, 8000, .inl hf))]) (ws' := wd_BR_read br i ia h ha t ta cB cI cJ b_at_70 b_end b_start b_most b_dist b_place_70 in if hn hf tn_70 tf_70) C.call (c_BR_takeLiterals l dC dI cB cI cJ br i ia t ta h  b_at_67 b_end b_start b_most b_dist b_place in if tn tf r67 hc70) (cwV 1 hts (gd_V w_246 w_247 w_248 w_234 w_249) rfl rfl rfl ⟨rfl, hd_BR_takeLiterals⟩ ⟨Nat.le_of_ble_eq_true rfl, Nat.le_of_ble_eq_true rfl⟩) rfl hl.1 rfl (Nat.le_of_ble_eq_true rfl) d_BR_read_70 ⟨Nat.le_of_ble_eq_true rfl, Nat.le_of_ble_eq_true rfl⟩ hZ hK hP hD hS hA 5 0 rfl rfl [0, 1, 2, 5, 6] [3, 4] [2, 3, 4, 0, 1, 5, 6] rfl rfl rfl rfl (by decide) rfl rfl (fun H locs hP hD hS => ?_)
        refine lv_istore (lv' := [(7, .int r70), (6, .int r46), (0, .ref br), (2, .int x2), (5, .int x5)]) hx hb d_BR_read_73 hl (by decide) rfl (fun ls hl => ?_)
        refine lv_iload hx hb d_BR_read_75 (lv_at hl 0 rfl) ?_
        refine lv_if_ne (tgt := 95) hx hb d_BR_read_77 (by decide) (fun c_77 => ?_) (fun c_77 => ?_)
        · have hf := br_neg c_77 hf
          exact k_BR_read_95 C hK hA x2 x5 r46 r70 b_at_70 b_end b_start b_most b_dist b_place_70 in if hn hf tn_70 tf_70 kh24 ih24 hf hP hD hS (lv_sub hl [2, 3, 4, 1, 0] rfl)
        · have hf := br_pos c_77 hf
          refine lv_aload_n hx hb d_BR_read_80 rfl (lv_at hl 2 rfl) ?_
          refine va_get (D := (dC, dI)) (ci := 5) (v := .int b_at_70) (C := R_BR) (T := T_BR) (N := 9) hx hb hts w_218 hown hK hP 0 rfl rfl 3 (by decide) (hts _ w_220) (fun _ h9 => h9) rfl d_BR_read_81 ?_
          refine lv_iload_n hx hb d_BR_read_84 rfl (lv_at hl 3 rfl) ?_
          refine lv_icmp_lt (tgt := 95) hx hb d_BR_read_85 (by decide) (fun c_85 => ?_) (fun c_85 => ?_)
          · have hf := br_pos c_85 hf
            exact k_BR_read_95 C hK hA x2 x5 r46 r70 b_at_70 b_end b_start b_most b_dist b_place_70 in if hn hf tn_70 tf_70 kh24 ih24 hf hP hD hS (lv_sub hl [2, 3, 4, 1, 0] rfl)
          · have hf := br_neg c_85 hf
            refine lv_aload_n hx hb d_BR_read_88 rfl (lv_at hl 2 rfl) ?_
            refine lv_iload_n hx hb d_BR_read_89 rfl (lv_at hl 3 rfl) ?_
            refine va_put (D := (dC, dI)) (ci := 5) (v := .int x2) (ty := .int) (C := R_BR) (T := T_BR) (N := 9) hx hb hts w_218 ty_BR ty_BR_ok nm_BR hown hK hP hD hS 0 rfl rfl 8 (by decide) (hts _ w_219) (fun _ h9 => h9) rfl (by decide +kernel) rfl rfl (Nat.le_of_ble_eq_true rfl) d_BR_read_90 (fun H locs hP hD hS => ?_)
            have hP : va_P (dC, dI) vwCl (wd_BR_read br i ia h ha t ta cB cI cJ b_at_70 b_end b_start b_most b_dist x2 in if hn hf tn_70 tf_70) H := hP
            have hD : va_D A (wd_BR_read br i ia h ha t ta cB cI cJ b_at_70 b_end b_start b_most b_dist x2 in if hn hf tn_70 tf_70) := hD
            refine lv_iconst (v := 0) hx hb d_BR_read_93 (by decide) ?_
            cases hf
            exact s_iret hx hb hr hlocks hP hK hD hS d_BR_read_94
noncomputable def j_BR_read_0 (N : Nat) (x1 : Int32) (x2 : Int32) (x3 : Int32) (x4 : Int32) (b_dist : Int32) (b_place : Int32) (in : Int32) (if : Nat → Int32) (hn : Int32) (hf : Nat → Int32) (tn : Int32) (tf : Nat → Int32)  : Option (Int32 × Int32 × Int32 × Int32 × Int32 × Int32 × Int32 × Int32 × (Nat → Int32)) :=
  (loop6 (b_BR_read_24 N x2 x2 x3 x4 in if hn hf ) N x1 x1 b_dist b_place tn tf)
set_option maxHeartbeats 4000000 in
set_option maxRecDepth 100000 in
theorem k_BR_read_0 {r_z : Int32} {b_at_z : Int32} {b_end_z : Int32} {b_start_z : Int32} {b_most_z : Int32} {b_dist_z : Int32} {b_place_z : Int32} {tn_z : Int32} {tf_z : Nat → Int32} (C : Fx p s m args meth c cd_BR_read 9 R_BR lw_g (some .int)) (hK : va_K (dC, dI) vwCl [(cB, .byte), (cI, .int), (cJ, .long)] s) (hA : ∀ q, s.heap.size ≤ q → A q) (x1 : Int32) (x2 : Int32) (x3 : Int32) (x4 : Int32) (b_at : Int32) (b_end : Int32) (b_start : Int32) (b_most : Int32) (b_dist : Int32) (b_place : Int32) (in : Int32) (if : Nat → Int32) (hn : Int32) (hf : Nat → Int32) (tn : Int32) (tf : Nat → Int32)  (hf : j_BR_read_0 N x1 x2 x3 x4 b_dist b_place in if hn hf tn tf  = some (r_z, b_at_z, b_end_z, b_start_z, b_most_z, b_dist_z, b_place_z, tn_z, tf_z)) (hP : va_P (dC, dI) vwCl (wd_BR_read br i ia h ha t ta cB cI cJ b_at b_end b_start b_most b_dist b_place in if hn hf tn tf) H) (hD : va_D A (wd_BR_read br i ia h ha t ta cB cI cJ b_at b_end b_start b_most b_dist b_place in if hn hf tn tf)) (hS : va_S A s.heap H locs) (hl : lv_has ls 9 [(0, .ref br), (1, .int x1), (2, .int x2), (3, .int x3), (4, .int x4)]) : W p l e rm_BR_read s m args below meth c H locs 0 0 (MQ below (sQi (dC, dI) vwCl [(cB, .byte), (cI, .int), (cJ, .long)] A r_z (wd_BR_read br i ia h ha t ta cB cI cJ b_at_z b_end_z b_start_z b_most_z b_dist_z b_place_z in if hn hf tn_z tf_z)) args s 0 0 A) (F0 m 0 ls []) := by
  obtain ⟨hx, hb, hml, hown, hts, hr, hlocks, hZ⟩ := id C
  unfold j_BR_read_0 at hf
  refine lv_aload_n hx hb d_BR_read_0 rfl (lv_at hl 0 rfl) ?_
  refine lv_iload_n hx hb d_BR_read_1 rfl (lv_at hl 1 rfl) ?_
  refine va_put (D := (dC, dI)) (ci := 5) (v := .int x1) (ty := .int) (C := R_BR) (T := T_BR) (N := 9) hx hb hts w_218 ty_BR ty_BR_ok nm_BR hown hK hP hD hS 0 rfl rfl 3 (by decide) (hts _ w_220) (fun _ h9 => h9) rfl (by decide +kernel) rfl rfl (Nat.le_of_ble_eq_true rfl) d_BR_read_2 (fun H locs hP hD hS => ?_)
  have hP : va_P (dC, dI) vwCl (wd_BR_read br i ia h ha t ta cB cI cJ x1 b_end b_start b_most b_dist b_place in if hn hf tn tf) H := hP
  have hD : va_D A (wd_BR_read br i ia h ha t ta cB cI cJ x1 b_end b_start b_most b_dist b_place in if hn hf tn tf) := hD
  refine lv_aload_n hx hb d_BR_read_5 rfl (lv_at hl 0 rfl) ?_
  refine lv_iload_n hx hb d_BR_read_6 rfl (lv_at hl 2 rfl) ?_
  refine va_put (D := (dC, dI)) (ci := 5) (v := .int x2) (ty := .int) (C := R_BR) (T := T_BR) (N := 9) hx hb hts w_218 ty_BR ty_BR_ok nm_BR hown hK hP hD hS 0 rfl rfl 4 (by decide) (hts _ w_221) (fun _ h9 => h9) rfl (by decide +kernel) rfl rfl (Nat.le_of_ble_eq_true rfl) d_BR_read_7 (fun H locs hP hD hS => ?_)
  have hP : va_P (dC, dI) vwCl (wd_BR_read br i ia h ha t ta cB cI cJ x1 x2 b_start b_most b_dist b_place in if hn hf tn tf) H := hP
  have hD : va_D A (wd_BR_read br i ia h ha t ta cB cI cJ x1 x2 b_start b_most b_dist b_place in if hn hf tn tf) := hD
  refine lv_aload_n hx hb d_BR_read_10 rfl (lv_at hl 0 rfl) ?_
  refine lv_iload_n hx hb d_BR_read_11 rfl (lv_at hl 3 rfl) ?_
  refine va_put (D := (dC, dI)) (ci := 5) (v := .int x3) (ty := .int) (C := R_BR) (T := T_BR) (N := 9) hx hb hts w_218 ty_BR ty_BR_ok nm_BR hown hK hP hD hS 0 rfl rfl 5 (by decide) (hts _ w_228) (fun _ h9 => h9) rfl (by decide +kernel) rfl rfl (Nat.le_of_ble_eq_true rfl) d_BR_read_12 (fun H locs hP hD hS => ?_)
  have hP : va_P (dC, dI) vwCl (wd_BR_read br i ia h ha t ta cB cI cJ x1 x2 x3 b_most b_dist b_place in if hn hf tn tf) H := hP
  have hD : va_D A (wd_BR_read br i ia h ha t ta cB cI cJ x1 x2 x3 b_most b_dist b_place in if hn hf tn tf) := hD
  refine lv_aload_n hx hb d_BR_read_15 rfl (lv_at hl 0 rfl) ?_
  refine lv_iload hx hb d_BR_read_16 (lv_at hl 4 rfl) ?_
  refine va_put (D := (dC, dI)) (ci := 5) (v := .int x4) (ty := .int) (C := R_BR) (T := T_BR) (N := 9) hx hb hts w_218 ty_BR ty_BR_ok nm_BR hown hK hP hD hS 0 rfl rfl 6 (by decide) (hts _ w_224) (fun _ h9 => h9) rfl (by decide +kernel) rfl rfl (Nat.le_of_ble_eq_true rfl) d_BR_read_18 (fun H locs hP hD hS => ?_)
  have hP : va_P (dC, dI) vwCl (wd_BR_read br i ia h ha t ta cB cI cJ x1 x2 x3 x4 b_dist b_place in if hn hf tn tf) H := hP
  have hD : va_D A (wd_BR_read br i ia h ha t ta cB cI cJ x1 x2 x3 x4 b_dist b_place in if hn hf tn tf) := hD
  refine lv_iload_n hx hb d_BR_read_21 rfl (lv_at hl 1 rfl) ?_
  refine lv_istore (lv' := [(5, .int x1), (0, .ref br), (1, .int x1), (2, .int x2), (3, .int x3), (4, .int x4)]) hx hb d_BR_read_22 hl (by decide) rfl (fun ls hl => ?_)
  exact k_BR_read_24 C hK hA x2 x2 x3 x4 in if hn hf  N x1 x1 b_dist b_place tn tf hf _ _ hP hD hS _ (lv_sub hl [1, 3, 0] rfl)
end
noncomputable abbrev f_BR_read (N : Nat) (x1 : Int32) (x2 : Int32) (x3 : Int32) (x4 : Int32) (b_dist : Int32) (b_place : Int32) (in : Int32) (if : Nat → Int32) (hn : Int32) (hf : Nat → Int32) (tn : Int32) (tf : Nat → Int32) : Option (Int32 × Int32 × Int32 × Int32 × Int32 × Int32 × Int32 × Int32 × (Nat → Int32)) := j_BR_read_0 N x1 x2 x3 x4 b_dist b_place in if hn hf tn tf
set_option maxRecDepth 100000 in
theorem c_BR_read {N : Nat} (l : Launch) (dC : Nat → ClassId) (dI : Nat → Nat → Nat) (cB cI cJ : ClassId) (br i ia h ha t ta : Nat) (b_at : Int32) (b_end : Int32) (b_start : Int32) (b_most : Int32) (b_dist : Int32) (b_place : Int32) (in : Int32) (if : Nat → Int32) (hn : Int32) (hf : Nat → Int32) (tn : Int32) (tf : Nat → Int32) (x1 : Int32) (x2 : Int32) (x3 : Int32) (x4 : Int32) {r_z : Int32} {b_at_z : Int32} {b_end_z : Int32} {b_start_z : Int32} {b_most_z : Int32} {b_dist_z : Int32} {b_place_z : Int32} {tn_z : Int32} {tf_z : Nat → Int32} (hf : f_BR_read N x1 x2 x3 x4 b_dist b_place in if hn hf tn tf = some (r_z, b_at_z, b_end_z, b_start_z, b_most_z, b_dist_z, b_place_z, tn_z, tf_z)) : MetI l y_BR_read ws_BR_read rm_BR_read (dC, dI) vwCl [(cB, .byte), (cI, .int), (cJ, .long)] [.ref br, .int x1, .int x2, .int x3, .int x4] (wd_BR_read br i ia h ha t ta cB cI cJ b_at b_end b_start b_most b_dist b_place in if hn hf tn tf) r_z (wd_BR_read br i ia h ha t ta cB cI cJ b_at_z b_end_z b_start_z b_most_z b_dist_z b_place_z in if hn hf tn_z tf_z) 0 0 :=
  s_ofi (bytes := cd_BR_read) (maxL := 9) (ret := (some .int)) (by decide) rfl (Nat.le_of_ble_eq_true rfl) (fun p e s m below meth c A ls C hK hA hP hD hS hl => k_BR_read_0 C hK hA x1 x2 x3 x4 b_at b_end b_start b_most b_dist b_place in if hn hf tn tf hf hP hD hS (lv_sub hl [0, 1, 2, 3, 4] rfl))

abbrev wd_BR_where (br i h t : Nat) (cB cI cJ : ClassId) (b_at : Int32) (b_end : Int32) (b_start : Int32) (b_most : Int32) (b_dist : Int32) (b_place : Int32) : va_W := [(br, .inr (5, [.ref i, .ref h, .ref t, .int b_at, .int b_end, .int b_start, .int b_most, .int b_dist, .int b_place]))]
abbrev rm_BR_where : Room := { frames := 0, cells := 0, slots := 0, locals := 0 }
section
variable {p : Program} {l : Launch} {e : Env} {s : State} {m : MethodId} {args : Array Value} {below : List Frame} {meth : Method} {c : Code} {dC : Nat → ClassId} {dI : Nat → Nat → Nat} {A : Nat → Prop} {cB cI cJ : ClassId} {H : Heap} {locs : List Loc} {ls : Array Slot} {N : Nat} {br i h t : Nat}
noncomputable def j_BR_where_0 (b_place : Int32)  : Option (Int32) :=
  (some b_place : Option (Int32))
set_option maxHeartbeats 4000000 in
set_option maxRecDepth 100000 in
theorem k_BR_where_0 {r_z : Int32} (C : Fx p s m args meth c cd_BR_where 1 R_BR lw_g (some .int)) (hK : va_K (dC, dI) vwCl [(cB, .byte), (cI, .int), (cJ, .long)] s) (hA : ∀ q, s.heap.size ≤ q → A q) (b_at : Int32) (b_end : Int32) (b_start : Int32) (b_most : Int32) (b_dist : Int32) (b_place : Int32)  (hf : j_BR_where_0 b_place  = some r_z) (hP : va_P (dC, dI) vwCl (wd_BR_where br i h t cB cI cJ b_at b_end b_start b_most b_dist b_place) H) (hD : va_D A (wd_BR_where br i h t cB cI cJ b_at b_end b_start b_most b_dist b_place)) (hS : va_S A s.heap H locs) (hl : lv_has ls 1 [(0, .ref br)]) : W p l e rm_BR_where s m args below meth c H locs 0 0 (MQ below (sQi (dC, dI) vwCl [(cB, .byte), (cI, .int), (cJ, .long)] A r_z (wd_BR_where br i h t cB cI cJ b_at b_end b_start b_most b_dist b_place)) args s 0 0 A) (F0 m 0 ls []) := by
  obtain ⟨hx, hb, hml, hown, hts, hr, hlocks, hZ⟩ := id C
  unfold j_BR_where_0 at hf
  refine lv_aload_n hx hb d_BR_where_0 rfl (lv_at hl 0 rfl) ?_
  refine va_get (D := (dC, dI)) (ci := 5) (v := .int b_place) (C := R_BR) (T := T_BR) (N := 9) hx hb hts w_218 hown hK hP 0 rfl rfl 8 (by decide) (hts _ w_219) (fun _ h9 => h9) rfl d_BR_where_1 ?_
  cases hf
  exact s_iret hx hb hr hlocks hP hK hD hS d_BR_where_4
end
noncomputable abbrev f_BR_where (b_place : Int32) : Option (Int32) := j_BR_where_0 b_place
set_option maxRecDepth 100000 in
theorem c_BR_where (l : Launch) (dC : Nat → ClassId) (dI : Nat → Nat → Nat) (cB cI cJ : ClassId) (br i h t : Nat) (b_at : Int32) (b_end : Int32) (b_start : Int32) (b_most : Int32) (b_dist : Int32) (b_place : Int32)  {r_z : Int32} (hf : f_BR_where b_place = some r_z) : MetI l y_BR_where ws_BR_where rm_BR_where (dC, dI) vwCl [(cB, .byte), (cI, .int), (cJ, .long)] [.ref br] (wd_BR_where br i h t cB cI cJ b_at b_end b_start b_most b_dist b_place) r_z (wd_BR_where br i h t cB cI cJ b_at b_end b_start b_most b_dist b_place) 0 0 :=
  s_ofi (bytes := cd_BR_where) (maxL := 1) (ret := (some .int)) (by decide) rfl (Nat.le_of_ble_eq_true rfl) (fun p e s m below meth c A ls C hK hA hP hD hS hl => k_BR_where_0 C hK hA b_at b_end b_start b_most b_dist b_place hf hP hD hS (lv_sub hl [0] rfl))

abbrev rm_BR_init : Room := { frames := 1, cells := 0, slots := 0, locals := 12 }
abbrev wn_BR_init (cB cI cJ : ClassId) (h0 : Nat) (a1 a2 a3 : Nat) : (Unit) → va_W := (fun (u : Unit) => ([(h0, .inr (5, [.ref a1, .ref a2, .ref a3, .int (0 : Int32), .int (0 : Int32), .int (0 : Int32), .int (0 : Int32), .int (0 : Int32), .int (0 : Int32)]))] : va_W))
set_option maxHeartbeats 4000000 in
set_option maxRecDepth 100000 in
theorem c_BR_init (l : Launch) (dC : Nat → ClassId) (dI : Nat → Nat → Nat) (cB cI cJ : ClassId) (h0 : Nat) (a1 a2 a3 : Nat) : MetN l y_BR_init ws_BR_init rm_BR_init (dC, dI) vwCl [(cB, .byte), (cI, .int), (cJ, .long)] [.ref h0, .ref a1, .ref a2, .ref a3] [(h0, .inr (5, [.null, .null, .null, .int (0 : Int32), .int (0 : Int32), .int (0 : Int32), .int (0 : Int32), .int (0 : Int32), .int (0 : Int32)]))] (wn_BR_init cB cI cJ h0 a1 a2 a3) 0 0 := by
  refine s_ofn (bytes := cd_BR_init) (maxL := 4) (ret := none) (by decide) rfl (Nat.le_of_ble_eq_true rfl) ?_
  intro p e s m below meth c A ls C hin hK hA hP hD hS hl
  obtain ⟨hx, hb, hml, hown, hts, hr, hlocks, hZ⟩ := id C
  have hl : lv_has ls 4 [(0, .ref h0), (1, .ref a1), (2, .ref a2), (3, .ref a3)] := hl
  refine lv_aload_n hx hb d_BR_init_0 rfl (lv_at hl 0 rfl) ?_
  refine W.objInit hx hb hown (hts _ w_510) (hts _ w_487) (hts _ w_488) rfl (by rw [hml]; exact hl.1) rfl d_BR_init_1 (Nat.le_of_ble_eq_true rfl) (Nat.le_of_ble_eq_true rfl) ?_
  refine W.eq (g2 := F0 m 4 ls []) rfl ?_
  refine lv_aload_n hx hb d_BR_init_4 rfl (lv_at hl 0 rfl) ?_
  refine lv_aload_n hx hb d_BR_init_5 rfl (lv_at hl 1 rfl) ?_
  refine va_putF (D := (dC, dI)) (ci := 5) (v := .ref a1) (ty := .object "TokenFrames$Row") (C := R_BR) (T := T_BR) (N := 9) hx hb hts w_218 ty_BR ty_BR_ok nm_BR hown hK hP hD hS 0 rfl rfl 0 (by decide) (hts _ w_222) (fun _ h9 => h9) rfl hin rfl (by decide +kernel) rfl rfl (Nat.le_of_ble_eq_true rfl) d_BR_init_6 (fun H locs hP hD hS => ?_)
  have hP : va_P (dC, dI) vwCl [(h0, .inr (5, [.ref a1, .null, .null, .int (0 : Int32), .int (0 : Int32), .int (0 : Int32), .int (0 : Int32), .int (0 : Int32), .int (0 : Int32)]))] H := hP
  have hD : va_D A [(h0, .inr (5, [.ref a1, .null, .null, .int (0 : Int32), .int (0 : Int32), .int (0 : Int32), .int (0 : Int32), .int (0 : Int32), .int (0 : Int32)]))] := hD
  refine lv_aload_n hx hb d_BR_init_9 rfl (lv_at hl 0 rfl) ?_
  refine lv_aload_n hx hb d_BR_init_10 rfl (lv_at hl 2 rfl) ?_
  refine va_putF (D := (dC, dI)) (ci := 5) (v := .ref a2) (ty := .object "TokenFrames$Row") (C := R_BR) (T := T_BR) (N := 9) hx hb hts w_218 ty_BR ty_BR_ok nm_BR hown hK hP hD hS 0 rfl rfl 1 (by decide) (hts _ w_229) (fun _ h9 => h9) rfl hin rfl (by decide +kernel) rfl rfl (Nat.le_of_ble_eq_true rfl) d_BR_init_11 (fun H locs hP hD hS => ?_)
  have hP : va_P (dC, dI) vwCl [(h0, .inr (5, [.ref a1, .ref a2, .null, .int (0 : Int32), .int (0 : Int32), .int (0 : Int32), .int (0 : Int32), .int (0 : Int32), .int (0 : Int32)]))] H := hP
  have hD : va_D A [(h0, .inr (5, [.ref a1, .ref a2, .null, .int (0 : Int32), .int (0 : Int32), .int (0 : Int32), .int (0 : Int32), .int (0 : Int32), .int (0 : Int32)]))] := hD
  refine lv_aload_n hx hb d_BR_init_14 rfl (lv_at hl 0 rfl) ?_
  refine lv_aload_n hx hb d_BR_init_15 rfl (lv_at hl 3 rfl) ?_
  refine va_putF (D := (dC, dI)) (ci := 5) (v := .ref a3) (ty := .object "TokenFrames$Row") (C := R_BR) (T := T_BR) (N := 9) hx hb hts w_218 ty_BR ty_BR_ok nm_BR hown hK hP hD hS 0 rfl rfl 2 (by decide) (hts _ w_225) (fun _ h9 => h9) rfl hin rfl (by decide +kernel) rfl rfl (Nat.le_of_ble_eq_true rfl) d_BR_init_16 (fun H locs hP hD hS => ?_)
  have hP : va_P (dC, dI) vwCl [(h0, .inr (5, [.ref a1, .ref a2, .ref a3, .int (0 : Int32), .int (0 : Int32), .int (0 : Int32), .int (0 : Int32), .int (0 : Int32), .int (0 : Int32)]))] H := hP
  have hD : va_D A [(h0, .inr (5, [.ref a1, .ref a2, .ref a3, .int (0 : Int32), .int (0 : Int32), .int (0 : Int32), .int (0 : Int32), .int (0 : Int32), .int (0 : Int32)]))] := hD
  exact s_nret (wn := wn_BR_init cB cI cJ h0 a1 a2 a3) () hx hb hr hlocks hP hK hD hS d_BR_init_19
