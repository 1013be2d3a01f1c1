/-! Reading frames: what comes of it. -/
theorem nI_eq32 {a b : Nat} (ha : a < 2 ^ 32) (hb : b < 2 ^ 32) : nI a = nI b ↔ a = b := by
  constructor
  · intro h
    have h2 : vN (nI a) = vN (nI b) := by rw [h]
    rw [vN_nI, vN_nI, Nat.mod_eq_of_lt ha, Nat.mod_eq_of_lt hb] at h2
    exact h2
  · intro h
    rw [h]
theorem neg31 {w : Nat} (h : 2147483648 ≤ w) (hw : w < 4294967296) : ¬ (0 : Int32) ≤ nI w := by
  intro z
  obtain ⟨k, hk, e⟩ := nI_of (x := nI w) (fun y => by
    have a := Int32.le_iff_toInt_le.mp z
    have b := Int32.lt_iff_toInt_lt.mp y
    omega)
  have := (nI_eq32 (a := w) (b := k) (by omega) (by omega)).mp e
  omega
theorem W4_lt {L k : Nat} {n : Int32} {f : Nat → Int32} {B : Nat → Nat} (h : Rw L k n f B) {j : Nat} (hj : j + 4 ≤ k) : W4 B j < 4294967296 := by
  have h0 := (h.2.2.2 j (by omega)).1
  have h1 := (h.2.2.2 (j + 1) (by omega)).1
  have h2 := (h.2.2.2 (j + 2) (by omega)).1
  have h3 := (h.2.2.2 (j + 3) (by omega)).1
  unfold W4
  omega
theorem W4_ltM {k : Nat} {n : Int32} {f : Nat → Int32} {B : Nat → Nat} (h : Mw k n f B) {j : Nat} (hj : j + 4 ≤ k) : W4 B j < 4294967296 := by
  have h0 := (h.2.2 j (by omega)).1
  have h1 := (h.2.2 (j + 1) (by omega)).1
  have h2 := (h.2.2 (j + 2) (by omega)).1
  have h3 := (h.2.2 (j + 3) (by omega)).1
  unfold W4
  omega
/-- fault (0: none), its place, the place behind, how many bytes of content, they -/
abbrev Rfr : Type := Nat × Nat × Nat × Nat × (Nat → Nat)
def sbN (fl : Int32) : Nat := if fl &&& (16 : Int32) = 0 then 0 else 4
theorem sbN_le (fl : Int32) : sbN fl ≤ 4 := by
  unfold sbN
  split <;> omega
/-- of a block's reading -/
def frR (R : Rd) (kh s0 c b : Nat) (C : Nat → Nat) : Rfr := (if R.1 = 1 then 9 else R.1, R.2.1, b, c + (R.2.2.1 - (kh + (c - s0))), fun i => if i < c then C i else R.2.2.2 (kh + (i - s0)))
def bkR (G H : Nat → Nat) (kh most s0 m a c : Nat) (C : Nat → Nat) : Rd := rd G (a + m) (kh + most - s0) 20001 a (kh + (c - s0)) (virt H kh C s0)
/-- what the m bytes from a on come to -/
def prt2 (G H : Nat → Nat) (kh most : Nat) (fl : Int32) (st w m a b c : Nat) (C : Nat → Nat) : Rfr :=
  if 2147483648 ≤ w then (if most - c < m then (3, a + (most - c), b, c, C) else (0, b, b, c + m, catB C c G a))
  else if fl &&& (32 : Int32) = 0 then frR (bkR G H kh most st m a c C) kh st c b C
  else frR (bkR G H kh most c m a c C) kh c c b C
def prt1 (G H : Nat → Nat) (kg kh most : Nat) (fl : Int32) (st w m j c : Nat) (C : Nat → Nat) : Rfr :=
  if kg < j + 4 + m + sbN fl then (1, kg, j, c, C)
  else if ¬ fl &&& (16 : Int32) = 0 ∧ ¬ nI (W4 G (j + 4 + m)) = sumS G (j + 4) m then (8, j + 4 + m, j, c, C)
  else prt2 G H kh most fl st w m (j + 4) (j + 4 + m + sbN fl) c C
/-- a block of a frame, its number w at j -/
def prt (G H : Nat → Nat) (kg kh most : Nat) (fl : Int32) (gr st w j c : Nat) (C : Nat → Nat) : Rfr :=
  if gr < w % 2147483648 then (7, j, j, c, C) else prt1 G H kg kh most fl st w (w % 2147483648) j c C
/-- SIZE -/
def szR (G : Nat → Nat) (fl : Int32) (sz st j c : Nat) (C : Nat → Nat) : Rfr :=
  if fl &&& (8 : Int32) = 0 then (0, j, j, c, C)
  else if W4 G sz = c - st ∧ W4 G (sz + 4) = 0 then (0, j, j, c, C) else (11, sz, j, c, C)
/-- behind the blocks -/
def tlR (G : Nat → Nat) (kg : Nat) (fl : Int32) (sz st j c : Nat) (C : Nat → Nat) : Rfr :=
  if fl &&& (4 : Int32) = 0 then szR G fl sz st j c C
  else if kg < j + 4 then (1, kg, j, c, C)
  else if nI (W4 G j) = sumS C st (c - st) then szR G fl sz st (j + 4) c C else (10, j, j, c, C)
def prts (G H : Nat → Nat) (kg kh most : Nat) (fl : Int32) (gr sz st : Nat) : Nat → Nat → Nat → (Nat → Nat) → Rfr
  | 0, j, c, C => (1, kg, j, c, C)
  | f + 1, j, c, C =>
    if kg < j + 4 then (1, kg, j, c, C)
    else if W4 G j = 0 then tlR G kg fl sz st (j + 4) c C
    else if (prt G H kg kh most fl gr st (W4 G j) j c C).1 = 0 then prts G H kg kh most fl gr sz st f (prt G H kg kh most fl gr st (W4 G j) j c C).2.2.1 (prt G H kg kh most fl gr st (W4 G j) j c C).2.2.2.1 (prt G H kg kh most fl gr st (W4 G j) j c C).2.2.2.2
    else prt G H kg kh most fl gr st (W4 G j) j c C
theorem prts_s (G H : Nat → Nat) (kg kh most : Nat) (fl : Int32) (gr sz st f j c : Nat) (C : Nat → Nat) : prts G H kg kh most fl gr sz st (f + 1) j c C = if kg < j + 4 then (1, kg, j, c, C) else if W4 G j = 0 then tlR G kg fl sz st (j + 4) c C else if (prt G H kg kh most fl gr st (W4 G j) j c C).1 = 0 then prts G H kg kh most fl gr sz st f (prt G H kg kh most fl gr st (W4 G j) j c C).2.2.1 (prt G H kg kh most fl gr st (W4 G j) j c C).2.2.2.1 (prt G H kg kh most fl gr st (W4 G j) j c C).2.2.2.2 else prt G H kg kh most fl gr st (W4 G j) j c C := rfl
theorem prts_end {G H : Nat → Nat} {kg kh most : Nat} {fl : Int32} {gr sz st f j c : Nat} {C : Nat → Nat} (h : kg < j + 4) : prts G H kg kh most fl gr sz st f j c C = (1, kg, j, c, C) := by
  cases f with
  | zero => rfl
  | succ f => rw [prts_s, if_pos h]
def hdN (fl : Int32) : Nat := (if fl &&& (8 : Int32) = 0 then 0 else 8) + (if fl &&& (1 : Int32) = 0 then 0 else 4)
theorem hdN_le (fl : Int32) : hdN fl ≤ 12 := by
  unfold hdN
  split <;> split <;> omega
/-- a frame, from FLAGS on -/
def frm (G H : Nat → Nat) (kg kh most j c : Nat) (C : Nat → Nat) : Rfr :=
  if kg < j + 1 then (1, kg, j, c, C)
  else if ¬ nI (G j) &&& (-62 : Int32) = 64 then (5, j, j, c, C)
  else if kg < j + 2 then (1, kg, j, c, C)
  else if G (j + 1) / 16 < 4 ∨ 7 < G (j + 1) / 16 ∨ ¬ G (j + 1) % 16 = 0 then (5, j + 1, j, c, C)
  else if kg < j + 2 + hdN (nI (G j)) + 1 then (1, kg, j, c, C)
  else if G (j + 2 + hdN (nI (G j))) = vN (sumS G j (2 + hdN (nI (G j)))) / 2 ^ 8 % 256 then prts G H kg kh most (nI (G j)) (2 ^ (8 + 2 * (G (j + 1) / 16))) (j + 2) c 20001 (j + 2 + hdN (nI (G j)) + 1) c C
  else (6, j + 2 + hdN (nI (G j)), j, c, C)
/-- spare bytes, from their number on -/
def spr (G : Nat → Nat) (kg j c : Nat) (C : Nat → Nat) : Rfr :=
  if kg < j + 4 then (1, kg, j, c, C)
  else if kg < j + 4 + W4 G j then (1, kg, j, c, C) else (0, j + 4 + W4 G j, j + 4 + W4 G j, c, C)
def nxtF (G H : Nat → Nat) (kg kh most j c : Nat) (C : Nat → Nat) : Rfr :=
  if kg < j + 4 then (1, kg, j, c, C)
  else if W4 G j = 407708164 then frm G H kg kh most (j + 4) c C
  else if W4 G j / 16 = 25481893 then spr G kg (j + 4) c C
  else (4, j, j, c, C)
def frs (G H : Nat → Nat) (kg kh most : Nat) : Nat → Nat → Nat → (Nat → Nat) → Rfr
  | 0, j, c, C => (0, kg, j, c, C)
  | f + 1, j, c, C =>
    if kg ≤ j then (0, kg, j, c, C)
    else if (nxtF G H kg kh most j c C).1 = 0 then frs G H kg kh most f (nxtF G H kg kh most j c C).2.2.1 (nxtF G H kg kh most j c C).2.2.2.1 (nxtF G H kg kh most j c C).2.2.2.2
    else nxtF G H kg kh most j c C
theorem frs_s (G H : Nat → Nat) (kg kh most f j c : Nat) (C : Nat → Nat) : frs G H kg kh most (f + 1) j c C = if kg ≤ j then (0, kg, j, c, C) else if (nxtF G H kg kh most j c C).1 = 0 then frs G H kg kh most f (nxtF G H kg kh most j c C).2.2.1 (nxtF G H kg kh most j c C).2.2.2.1 (nxtF G H kg kh most j c C).2.2.2.2 else nxtF G H kg kh most j c C := rfl
theorem frs_end {G H : Nat → Nat} {kg kh most f j c : Nat} {C : Nat → Nat} (h : kg ≤ j) : frs G H kg kh most f j c C = (0, kg, j, c, C) := by
  cases f with
  | zero => rfl
  | succ f => rw [frs_s, if_pos h]
/-- reading IN as frames -/
def unf (G H : Nat → Nat) (kg kh most : Nat) : Rfr := frs G H kg kh most 20001 0 0 (fun _ => 0)
/-- the class has it -/
def Ft (kg most j c : Nat) (R : Rfr) (at' pl' tn' : Int32) (tf' : Nat → Int32) : Prop := R.1 ≤ 11 ∧ (R.1 ≠ 0 → pl' = nI R.2.1 ∧ ∃ k B, Rw 8000 k tn' tf' B) ∧ (R.1 = 0 → at' = nI R.2.2.1 ∧ Rw 8000 R.2.2.2.1 tn' tf' R.2.2.2.2 ∧ j ≤ R.2.2.1 ∧ R.2.2.1 ≤ kg ∧ c ≤ R.2.2.2.1 ∧ R.2.2.2.1 ≤ most)
/-- the model has it -/
def Fm (kg most j c : Nat) (R : Rfr) (wpl wcn wat : Int32) (wcf : Nat → Int32) : Prop := R.1 ≤ 11 ∧ (R.1 ≠ 0 → wpl = nI R.2.1) ∧ (R.1 = 0 → wat = nI R.2.2.1 ∧ wcn = nI R.2.2.2.1 ∧ Ma 8000 R.2.2.2.1 wcf R.2.2.2.2 ∧ j ≤ R.2.2.1 ∧ R.2.2.1 ≤ kg ∧ c ≤ R.2.2.2.1 ∧ R.2.2.2.1 ≤ most)
theorem Ft.no {kg most j c ft p x y : Nat} {z : Nat → Nat} {at' pl' tn' : Int32} {tf' : Nat → Int32} (h1 : 1 ≤ ft) (h2 : ft ≤ 11) (hp : pl' = nI p) {k : Nat} {B : Nat → Nat} (hT : Rw 8000 k tn' tf' B) : Ft kg most j c (ft, p, x, y, z) at' pl' tn' tf' := ⟨h2, fun _ => ⟨hp, k, B, hT⟩, fun e => by have e : ft = 0 := e; omega⟩
theorem Ft.yes {kg most j c p a y : Nat} {z : Nat → Nat} {at' pl' tn' : Int32} {tf' : Nat → Int32} (ha : at' = nI a) (hT : Rw 8000 y tn' tf' z) (h1 : j ≤ a) (h2 : a ≤ kg) (h3 : c ≤ y) (h4 : y ≤ most) : Ft kg most j c (0, p, a, y, z) at' pl' tn' tf' := ⟨Nat.zero_le _, fun h => absurd rfl h, fun _ => ⟨ha, hT, h1, h2, h3, h4⟩⟩
theorem Fm.no {kg most j c ft p x y : Nat} {z : Nat → Nat} {wpl wcn wat : Int32} {wcf : Nat → Int32} (h1 : 1 ≤ ft) (h2 : ft ≤ 11) (hp : wpl = nI p) : Fm kg most j c (ft, p, x, y, z) wpl wcn wat wcf := ⟨h2, fun _ => hp, fun e => by have e : ft = 0 := e; omega⟩
theorem Fm.yes {kg most j c p a y : Nat} {z : Nat → Nat} {wpl wcn wat : Int32} {wcf : Nat → Int32} (ha : wat = nI a) (hc : wcn = nI y) (hT : Ma 8000 y wcf z) (h1 : j ≤ a) (h2 : a ≤ kg) (h3 : c ≤ y) (h4 : y ≤ most) : Fm kg most j c (0, p, a, y, z) wpl wcn wat wcf := ⟨Nat.zero_le _, fun h => absurd rfl h, fun _ => ⟨ha, hc, hT, h1, h2, h3, h4⟩⟩
