abbrev wd_Arr_fill (a : Nat) (cB cI cJ : ClassId) (aL : Nat) (af : Nat → Int32) : va_W := [(a, .inl (cI, aL, .inl af))]
abbrev rm_Arr_fill : Room := { frames := 0, cells := 0, slots := 0, locals := 0 }
section
variable {p : Program} {l : Launch} {e : Env} {s : State} {m : MethodId} {args : Array Value} {below : List Frame} {meth : Method} {c : Code} {dC : Nat → ClassId} {dI : Nat → Nat → Nat} {A : Nat → Prop} {cB cI cJ : ClassId} {H : Heap} {locs : List Loc} {ls : Array Slot} {N : Nat} {a aL : Nat}
noncomputable def b_Arr_fill_5 (aL : Nat) (x1 : Int32) (x3 : Int32)  (kh5 : Int32 → (Nat → Int32) → Option ((Nat → Int32))) (x2 : Int32) (af : Nat → Int32) : Option ((Nat → Int32)) :=
  (if x3 ≤ x2 then (some af : Option ((Nat → Int32))) else as_ (vp_in x2 aL) ((kh5 (x2 + 1) (upd af x2.toNatClampNeg x1))))
set_option maxHeartbeats 4000000 in
set_option maxRecDepth 100000 in
theorem k_Arr_fill_5 {af_z : Nat → Int32} (C : Fx p s m args meth c cd_Arr_fill 4 R_Arr lw_g none) (hK : va_K (dC, dI) vwCl [(cB, .byte), (cI, .int), (cJ, .long)] s) (hA : ∀ q, s.heap.size ≤ q → A q) (x1 : Int32) (x3 : Int32)  : ∀ (n : Nat) (x2 : Int32) (af : Nat → Int32), loop2 (b_Arr_fill_5 aL x1 x3 ) n x2 af = some af_z → ∀ (H : Heap) (locs : List Loc), va_P (dC, dI) vwCl (wd_Arr_fill a cB cI cJ aL af) H → va_D A (wd_Arr_fill a cB cI cJ aL af) → va_S A s.heap H locs → ∀ (ls : Array Slot), lv_has ls 4 [(0, .ref a), (1, .int x1), (2, .int x2), (3, .int x3)] → W p l e rm_Arr_fill s m args below meth c H locs 0 0 (MQ below (sQv (dC, dI) vwCl [(cB, .byte), (cI, .int), (cJ, .long)] A (wd_Arr_fill a cB cI cJ aL af_z)) args s 0 0 A) (F0 m 5 ls []) := by
  obtain ⟨hx, hb, hml, hown, hts, hr, hlocks, hZ⟩ := id C
  intro n
  induction n with
  | zero => intro x2 af hf; cases hf
  | succ n ih5 =>
    intro x2 af hf H locs hP hD hS ls hl
    have hf : b_Arr_fill_5 aL x1 x3  (loop2 (b_Arr_fill_5 aL x1 x3 ) n) x2 af = some af_z := hf
    generalize loop2 (b_Arr_fill_5 aL x1 x3 ) n = kh5 at hf ih5
    unfold b_Arr_fill_5 at hf
    refine lv_iload_n hx hb d_Arr_fill_5 rfl (lv_at hl 2 rfl) ?_
    refine lv_iload_n hx hb d_Arr_fill_6 rfl (lv_at hl 3 rfl) ?_
    refine lv_icmp_ge (tgt := 20) hx hb d_Arr_fill_7 (by decide) (fun c_7 => ?_) (fun c_7 => ?_)
    · have hf := br_pos c_7 hf
      cases hf
      exact s_vret hx hb hr hlocks hP hK hD hS d_Arr_fill_20
    · have hf := br_neg c_7 hf
      refine lv_aload_n hx hb d_Arr_fill_10 rfl (lv_at hl 0 rfl) ?_
      refine lv_iload_n hx hb d_Arr_fill_11 rfl (lv_at hl 2 rfl) ?_
      refine lv_iload_n hx hb d_Arr_fill_12 rfl (lv_at hl 1 rfl) ?_
      obtain ⟨h_in, hf⟩ := as_some hf
      refine va_iast hx hb hK hP hD hS 0 1 rfl rfl h_in d_Arr_fill_13 (fun H locs hP hD hS => ?_)
      have hP : va_P (dC, dI) vwCl (wd_Arr_fill a cB cI cJ aL (upd af x2.toNatClampNeg x1)) H := hP
      have hD : va_D A (wd_Arr_fill a cB cI cJ aL (upd af x2.toNatClampNeg x1)) := hD
      refine lv_iinc (v := (x2 + 1)) (lv' := [(2, .int (x2 + 1)), (0, .ref a), (1, .int x1), (3, .int x3)]) hx hb d_Arr_fill_14 hl (k := 2) rfl (congrArg (fun z => x2 + z) (by decide)) (by decide) rfl (fun ls hl => ?_)
      refine lv_goto (tgt := 5) hx hb d_Arr_fill_17 (by decide) ?_
      exact ih5 (x2 + 1) (upd af x2.toNatClampNeg x1) hf _ _ hP hD hS _ (lv_sub hl [1, 2, 0, 3] rfl)
noncomputable def j_Arr_fill_0 (N : Nat) (aL : Nat) (x1 : Int32) (af : Nat → Int32)  : Option ((Nat → Int32)) :=
  (loop2 (b_Arr_fill_5 aL x1 (Int32.ofNat aL) ) N (0 : Int32) af)
set_option maxHeartbeats 4000000 in
set_option maxRecDepth 100000 in
theorem k_Arr_fill_0 {af_z : Nat → Int32} (C : Fx p s m args meth c cd_Arr_fill 4 R_Arr lw_g none) (hK : va_K (dC, dI) vwCl [(cB, .byte), (cI, .int), (cJ, .long)] s) (hA : ∀ q, s.heap.size ≤ q → A q) (x1 : Int32) (af : Nat → Int32)  (hf : j_Arr_fill_0 N aL x1 af  = some af_z) (hP : va_P (dC, dI) vwCl (wd_Arr_fill a cB cI cJ aL af) H) (hD : va_D A (wd_Arr_fill a cB cI cJ aL af)) (hS : va_S A s.heap H locs) (hl : lv_has ls 4 [(0, .ref a), (1, .int x1)]) : W p l e rm_Arr_fill s m args below meth c H locs 0 0 (MQ below (sQv (dC, dI) vwCl [(cB, .byte), (cI, .int), (cJ, .long)] A (wd_Arr_fill a cB cI cJ aL af_z)) args s 0 0 A) (F0 m 0 ls []) := by
  obtain ⟨hx, hb, hml, hown, hts, hr, hlocks, hZ⟩ := id C
  unfold j_Arr_fill_0 at hf
  refine lv_iconst (v := 0) hx hb d_Arr_fill_0 (by decide) ?_
  refine lv_istore_n (lv' := [(2, .int (0 : Int32)), (0, .ref a), (1, .int x1)]) hx hb d_Arr_fill_1 rfl hl (by decide) rfl (fun ls hl => ?_)
  refine lv_aload_n hx hb d_Arr_fill_2 rfl (lv_at hl 1 rfl) ?_
  refine va_alen (v := (Int32.ofNat aL)) hx hb hK hP 0 1 rfl rfl rfl d_Arr_fill_3 ?_
  refine lv_istore_n (lv' := [(3, .int (Int32.ofNat aL)), (2, .int (0 : Int32)), (0, .ref a), (1, .int x1)]) hx hb d_Arr_fill_4 rfl hl (by decide) rfl (fun ls hl => ?_)
  exact k_Arr_fill_5 C hK hA x1 (Int32.ofNat aL)  N (0 : Int32) af hf _ _ hP hD hS _ (lv_sub hl [2, 3, 1, 0] rfl)
end
noncomputable abbrev f_Arr_fill (N : Nat) (aL : Nat) (x1 : Int32) (af : Nat → Int32) : Option ((Nat → Int32)) := j_Arr_fill_0 N aL x1 af
set_option maxRecDepth 100000 in
theorem c_Arr_fill {N : Nat} (l : Launch) (dC : Nat → ClassId) (dI : Nat → Nat → Nat) (cB cI cJ : ClassId) (a aL : Nat) (af : Nat → Int32) (x1 : Int32) {af_z : Nat → Int32} (hf : f_Arr_fill N aL x1 af = some af_z) : MetV l y_Arr_fill ws_Arr_fill rm_Arr_fill (dC, dI) vwCl [(cB, .byte), (cI, .int), (cJ, .long)] [.ref a, .int x1] (wd_Arr_fill a cB cI cJ aL af)  (wd_Arr_fill a cB cI cJ aL af_z) 0 0 :=
  s_ofv (bytes := cd_Arr_fill) (maxL := 4) (ret := none) (by decide) rfl (Nat.le_of_ble_eq_true rfl) (fun p e s m below meth c A ls C hK hA hP hD hS hl => k_Arr_fill_0 C hK hA x1 af hf hP hD hS (lv_sub hl [0, 1] rfl))
