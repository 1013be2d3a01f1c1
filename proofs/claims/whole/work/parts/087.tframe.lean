/-! frame: the class. -/
def areF (x : Int32) : Prop := x &&& (-62 : Int32) = 64
theorem s_areFlags (x : Int32) : f_T_areFlags x = some (if x &&& (-62 : Int32) = 64 then 1 else 0) := by
  unfold f_T_areFlags
  rw [j_T_areFlags_0]
  split <;> rfl
theorem areF_tab : ∀ j, j < 64 → (64 ||| (nI j &&& 61) : Int32) = nI (64 ||| (nI j &&& 61) : Int32).toNatClampNeg ∧ 64 ≤ (64 ||| (nI j &&& 61) : Int32).toNatClampNeg ∧ (64 ||| (nI j &&& 61) : Int32).toNatClampNeg < 128 ∧ (64 ||| (nI j &&& 61) : Int32) &&& 2 = 0 := by decide +kernel
theorem areF_tab2 : ∀ n, n < 128 → 64 ≤ n → nI n &&& (2 : Int32) = 0 → nI n &&& (-62 : Int32) = 64 := by decide +kernel
theorem and_split (x : Int32) : x = (x &&& (-62 : Int32)) ||| ((x &&& 63) &&& 61) := by
  apply Int32.toBitVec_inj.mp
  rw [Int32.toBitVec_or, Int32.toBitVec_and, Int32.toBitVec_and, Int32.toBitVec_and, BitVec.and_assoc, ← BitVec.and_or_distrib_left]
  have e : ((-62 : Int32).toBitVec ||| ((63 : Int32).toBitVec &&& (61 : Int32).toBitVec)) = BitVec.allOnes 32 := by decide +kernel
  rw [e, BitVec.and_allOnes]
theorem areF_nI {x : Int32} (h : areF x) : ∃ fl : Nat, 64 ≤ fl ∧ fl < 128 ∧ x = nI fl ∧ nI fl &&& (2 : Int32) = 0 := by
  obtain ⟨j, hj, ej⟩ := pk_andE x (m := 63) 6 (by decide)
  have e := and_split x
  unfold areF at h
  rw [h, ej] at e
  obtain ⟨t1, t2, t3, t4⟩ := areF_tab j hj
  refine ⟨_, t2, t3, e.trans t1, ?_⟩
  rw [← t1]
  exact t4
theorem m_areFlags (x : Int32) : f_Mo_areFlags x = some (if x &&& (-62 : Int32) = 64 then 1 else 0) := by
  unfold f_Mo_areFlags
  rw [j_Mo_areFlags_0]
  by_cases h : x &&& (-62 : Int32) = 64
  · obtain ⟨fl, h1, h2, rfl, h3⟩ := areF_nI h
    rw [if_neg (show ¬ nI fl < 64 from nI_nlt (b := 64) h1 (by omega)), if_neg (show ¬ 128 ≤ nI fl from nI_ge (b := 128) h2 (by decide)), if_pos h3, if_pos h]
  · rw [if_neg h]
    by_cases a : x < 64
    · rw [if_pos a]
    · rw [if_neg a]
      by_cases b : 128 ≤ x
      · rw [if_pos b]
      · rw [if_neg b]
        by_cases c : x &&& (2 : Int32) = 0
        · exfalso
          have hx : ¬ x.toInt < (64 : Int32).toInt := fun z => a (Int32.lt_iff_toInt_lt.mpr z)
          have hy : ¬ (128 : Int32).toInt ≤ x.toInt := fun z => b (Int32.le_iff_toInt_le.mpr z)
          have e1 : (64 : Int32).toInt = 64 := rfl
          have e2 : (128 : Int32).toInt = 128 := rfl
          have ex : x = nI x.toInt.toNat := Int32.toInt_inj.mp (by rw [nI_toInt (by omega)]; omega)
          rw [ex] at h c
          exact h (areF_tab2 _ (by omega) (by omega) c)
        · rw [if_neg c]
def frameNo (x1 x2 x4 x5 : Int32) : Prop := ¬ areF x1 ∨ x2 < 4 ∨ 7 < x2 ∨ x4 < 1 ∨ 8000 < x4 ∨ x5 < 0 ∨ 3 < x5
def frameS (fl k kg : Nat) (key : Int32) (cut way : Nat) (H : Nat → Nat) (kh : Nat) (G : Nat → Nat) : Sq := tailF fl G kg (rowsS fl way cut H kh G kg 20001 0 (headS fl k kg key))
theorem s_isK {x : Int32} : f_T_isK x = some (if x < 4 ∨ 7 < x then 0 else 1) := by
  unfold f_T_isK
  rw [j_T_isK_0]
  by_cases a : x < 4
  · rw [if_pos a, if_pos (Or.inl a)]
  · rw [if_neg a]
    by_cases b : 7 < x
    · rw [if_pos b, if_pos (Or.inr b)]
    · rw [if_neg b, if_neg (by intro z; rcases z with z | z; exact a z; exact b z)]
theorem s_writeFrame {N fl k kg kh cut way : Nat} (hN : 20010 < N) (hfl : fl < 256) (hk : k < 16) (hc1 : 1 ≤ cut) (hc8 : cut ≤ 8000) (hw : way ≤ 3) {key gn hsn tn ms ml dn pkn : Int32} {gf hsf tf df la ea pkf : Nat → Int32} {G H : Nat → Nat} (hG : Rw 8000 kg gn gf G) (hH : Rw 8000 kh hsn hsf H) (ht : ∃ k B, Rw 8000 k tn tf B) (hd : ∃ k B, Rw 16000 k dn df B) (hp : ∃ k B, Rw 8000 k pkn pkf B) : ∃ mc' ms' ml' dn' df' la' ea' pkn' pkf', Out12 (frameS fl k kg key cut way H kh G) mc' ms' ml' dn' df' la' ea' pkn' pkf' (f_FW_writeFrame N (nI fl) (nI k) key (nI cut) (nI way) gn gf tn tf ms ml dn df la ea hsn hsf pkn pkf) ∧ Wk3 dn' df' pkn' pkf' := by
  have hg8 := hG.2.1
  obtain ⟨kt, T, hT⟩ := ht
  obtain ⟨kd, D, hD⟩ := hd
  obtain ⟨e1, hT0⟩ := s_cut0 hT
  obtain ⟨f1, e2, h2⟩ := s_head (N := N) (fl := fl) (k := k) (key := key) (by omega) hfl hk hG.1 hg8 hT0
  obtain ⟨df', la', e3, hD', hC⟩ := s_startOver (N := N) (by omega) hD hH la
  unfold f_FW_writeFrame
  rw [j_FW_writeFrame_0, bd1_of e1, bd3_of e2, bd4_of e3, show mx 1 (nI cut) = nI cut from by
    unfold mx
    by_cases y : 1 < cut
    · rw [if_pos (show (1 : Int32) < nI cut from nI_lt (a := 1) y (by omega))]
    · rw [if_neg (show ¬ (1 : Int32) < nI cut from nI_nlt (a := 1) (by omega) (by decide)), show cut = 1 from by omega]; rfl]
  exact wf_loop hN hw hc1 hc8 hG hH kg N 20001 0 _ _ 0 ms ml (nI kh) pkn f1 df' la' ea pkf (by omega) (by omega) (by omega) (by omega) h2 hp ⟨kh, H, hD'⟩ (fun _ => ⟨kh, H, 0, rfl, hD', Nat.le_refl _, fun _ _ => rfl, hC ea, Nat.zero_le _, fun _ => ⟨rfl, fun j hj => by unfold catB; rw [if_pos hj]⟩⟩)
