/-! THE GHOST HEAP as it is behind the constructors: 280 cells; towers (11 cells each) by their number, others by their place; references stand fast but for the row of towers (P). Printed by wip/whole/gen20.py -/
abbrev SK : Type := (Nat ⊕ Nat) × List (Option Nat)
def skB0 : List SK := [(.inr 11, [some 1, some 3, some 13, some 19, some 30, some 164, some 187, some 199, some 205, some 206, some 243]), (.inr 7, [some 2, none]), (.inl 0, List.replicate 64 none), (.inr 5, [some 4, some 5, some 6, none, none, some 12, none]), (.inl 0, List.replicate 5 none), (.inl 0, List.replicate 5 none), (.inl 3, [some 7, some 8, some 9, some 10, some 11]), (.inl 0, List.replicate 6 none), (.inl 0, List.replicate 6 none), (.inl 0, List.replicate 6 none), (.inl 0, List.replicate 6 none), (.inl 0, List.replicate 6 none), (.inl 1, List.replicate 5 none), (.inr 8, [some 14, some 15, some 16, some 17, some 18, none]), (.inl 0, List.replicate 5 none), (.inl 0, List.replicate 5 none), (.inl 0, List.replicate 5 none), (.inl 0, List.replicate 5 none), (.inl 0, List.replicate 5 none), (.inr 9, [some 20, some 26]), (.inr 2, [some 21, some 22, some 23, some 24, some 25, none, none]), (.inl 0, List.replicate 5 none), (.inl 0, List.replicate 5 none), (.inl 0, List.replicate 5 none), (.inl 0, List.replicate 5 none), (.inl 0, List.replicate 5 none), (.inr 4, [some 27, some 28, some 29, some 13]), (.inl 0, List.replicate 5 none), (.inl 0, List.replicate 5 none), (.inl 0, List.replicate 5 none), (.inr 6, [some 31, none]), (.inl 2, [some 32, some 43, some 54, some 65, some 76, some 87, some 98, some 109, some 120, some 131, some 142, some 153]), (.inr 9, [some 33, some 39]), (.inr 2, [some 34, some 35, some 36, some 37, some 38, none, none]), (.inl 0, List.replicate 5 none), (.inl 0, List.replicate 5 none), (.inl 0, List.replicate 5 none), (.inl 0, List.replicate 5 none), (.inl 0, List.replicate 5 none), (.inr 4, [some 40, some 41, some 42, some 13])]
def skB1 : List SK := [(.inl 0, List.replicate 5 none), (.inl 0, List.replicate 5 none), (.inl 0, List.replicate 5 none), (.inr 9, [some 44, some 50]), (.inr 2, [some 45, some 46, some 47, some 48, some 49, none, none]), (.inl 0, List.replicate 5 none), (.inl 0, List.replicate 5 none), (.inl 0, List.replicate 5 none), (.inl 0, List.replicate 5 none), (.inl 0, List.replicate 5 none), (.inr 4, [some 51, some 52, some 53, some 13]), (.inl 0, List.replicate 5 none), (.inl 0, List.replicate 5 none), (.inl 0, List.replicate 5 none), (.inr 9, [some 55, some 61]), (.inr 2, [some 56, some 57, some 58, some 59, some 60, none, none]), (.inl 0, List.replicate 5 none), (.inl 0, List.replicate 5 none), (.inl 0, List.replicate 5 none), (.inl 0, List.replicate 5 none), (.inl 0, List.replicate 5 none), (.inr 4, [some 62, some 63, some 64, some 13]), (.inl 0, List.replicate 5 none), (.inl 0, List.replicate 5 none), (.inl 0, List.replicate 5 none), (.inr 9, [some 66, some 72]), (.inr 2, [some 67, some 68, some 69, some 70, some 71, none, none]), (.inl 0, List.replicate 5 none), (.inl 0, List.replicate 5 none), (.inl 0, List.replicate 5 none), (.inl 0, List.replicate 5 none), (.inl 0, List.replicate 5 none), (.inr 4, [some 73, some 74, some 75, some 13]), (.inl 0, List.replicate 5 none), (.inl 0, List.replicate 5 none), (.inl 0, List.replicate 5 none), (.inr 9, [some 77, some 83]), (.inr 2, [some 78, some 79, some 80, some 81, some 82, none, none]), (.inl 0, List.replicate 5 none), (.inl 0, List.replicate 5 none)]
def skB2 : List SK := [(.inl 0, List.replicate 5 none), (.inl 0, List.replicate 5 none), (.inl 0, List.replicate 5 none), (.inr 4, [some 84, some 85, some 86, some 13]), (.inl 0, List.replicate 5 none), (.inl 0, List.replicate 5 none), (.inl 0, List.replicate 5 none), (.inr 9, [some 88, some 94]), (.inr 2, [some 89, some 90, some 91, some 92, some 93, none, none]), (.inl 0, List.replicate 5 none), (.inl 0, List.replicate 5 none), (.inl 0, List.replicate 5 none), (.inl 0, List.replicate 5 none), (.inl 0, List.replicate 5 none), (.inr 4, [some 95, some 96, some 97, some 13]), (.inl 0, List.replicate 5 none), (.inl 0, List.replicate 5 none), (.inl 0, List.replicate 5 none), (.inr 9, [some 99, some 105]), (.inr 2, [some 100, some 101, some 102, some 103, some 104, none, none]), (.inl 0, List.replicate 5 none), (.inl 0, List.replicate 5 none), (.inl 0, List.replicate 5 none), (.inl 0, List.replicate 5 none), (.inl 0, List.replicate 5 none), (.inr 4, [some 106, some 107, some 108, some 13]), (.inl 0, List.replicate 5 none), (.inl 0, List.replicate 5 none), (.inl 0, List.replicate 5 none), (.inr 9, [some 110, some 116]), (.inr 2, [some 111, some 112, some 113, some 114, some 115, none, none]), (.inl 0, List.replicate 5 none), (.inl 0, List.replicate 5 none), (.inl 0, List.replicate 5 none), (.inl 0, List.replicate 5 none), (.inl 0, List.replicate 5 none), (.inr 4, [some 117, some 118, some 119, some 13]), (.inl 0, List.replicate 5 none), (.inl 0, List.replicate 5 none), (.inl 0, List.replicate 5 none)]
def skB3 : List SK := [(.inr 9, [some 121, some 127]), (.inr 2, [some 122, some 123, some 124, some 125, some 126, none, none]), (.inl 0, List.replicate 5 none), (.inl 0, List.replicate 5 none), (.inl 0, List.replicate 5 none), (.inl 0, List.replicate 5 none), (.inl 0, List.replicate 5 none), (.inr 4, [some 128, some 129, some 130, some 13]), (.inl 0, List.replicate 5 none), (.inl 0, List.replicate 5 none), (.inl 0, List.replicate 5 none), (.inr 9, [some 132, some 138]), (.inr 2, [some 133, some 134, some 135, some 136, some 137, none, none]), (.inl 0, List.replicate 5 none), (.inl 0, List.replicate 5 none), (.inl 0, List.replicate 5 none), (.inl 0, List.replicate 5 none), (.inl 0, List.replicate 5 none), (.inr 4, [some 139, some 140, some 141, some 13]), (.inl 0, List.replicate 5 none), (.inl 0, List.replicate 5 none), (.inl 0, List.replicate 5 none), (.inr 9, [some 143, some 149]), (.inr 2, [some 144, some 145, some 146, some 147, some 148, none, none]), (.inl 0, List.replicate 5 none), (.inl 0, List.replicate 5 none), (.inl 0, List.replicate 5 none), (.inl 0, List.replicate 5 none), (.inl 0, List.replicate 5 none), (.inr 4, [some 150, some 151, some 152, some 13]), (.inl 0, List.replicate 5 none), (.inl 0, List.replicate 5 none), (.inl 0, List.replicate 5 none), (.inr 9, [some 154, some 160]), (.inr 2, [some 155, some 156, some 157, some 158, some 159, none, none]), (.inl 0, List.replicate 5 none), (.inl 0, List.replicate 5 none), (.inl 0, List.replicate 5 none), (.inl 0, List.replicate 5 none), (.inl 0, List.replicate 5 none)]
def skB4 : List SK := [(.inr 4, [some 161, some 162, some 163, some 13]), (.inl 0, List.replicate 5 none), (.inl 0, List.replicate 5 none), (.inl 0, List.replicate 5 none), (.inl 2, [some 165, some 176]), (.inr 9, [some 166, some 172]), (.inr 2, [some 167, some 168, some 169, some 170, some 171, none, none]), (.inl 0, List.replicate 5 none), (.inl 0, List.replicate 5 none), (.inl 0, List.replicate 5 none), (.inl 0, List.replicate 5 none), (.inl 0, List.replicate 5 none), (.inr 4, [some 173, some 174, some 175, some 13]), (.inl 0, List.replicate 5 none), (.inl 0, List.replicate 5 none), (.inl 0, List.replicate 5 none), (.inr 9, [some 177, some 183]), (.inr 2, [some 178, some 179, some 180, some 181, some 182, none, none]), (.inl 0, List.replicate 5 none), (.inl 0, List.replicate 5 none), (.inl 0, List.replicate 5 none), (.inl 0, List.replicate 5 none), (.inl 0, List.replicate 5 none), (.inr 4, [some 184, some 185, some 186, some 13]), (.inl 0, List.replicate 5 none), (.inl 0, List.replicate 5 none), (.inl 0, List.replicate 5 none), (.inl 1, List.replicate 2 none), (.inr 9, [some 189, some 195]), (.inr 2, [some 190, some 191, some 192, some 193, some 194, none, none]), (.inl 0, List.replicate 5 none), (.inl 0, List.replicate 5 none), (.inl 0, List.replicate 5 none), (.inl 0, List.replicate 5 none), (.inl 0, List.replicate 5 none), (.inr 4, [some 196, some 197, some 198, some 13]), (.inl 0, List.replicate 5 none), (.inl 0, List.replicate 5 none), (.inl 0, List.replicate 5 none), (.inr 0, [some 200, some 201, some 202, some 203, some 204, some 20, some 189, none])]
def skB5 : List SK := [(.inl 0, List.replicate 8 none), (.inl 0, List.replicate 8 none), (.inl 0, List.replicate 8 none), (.inl 0, List.replicate 8 none), (.inl 1, List.replicate 8 none), (.inr 3, [some 19, some 188]), (.inr 10, [some 207, some 19, some 208, some 209, none]), (.inl 0, List.replicate 3 none), (.inl 2, [some 210, some 221, some 232]), (.inl 0, List.replicate 3 none), (.inr 9, [some 211, some 217]), (.inr 2, [some 212, some 213, some 214, some 215, some 216, none, none]), (.inl 0, List.replicate 5 none), (.inl 0, List.replicate 5 none), (.inl 0, List.replicate 5 none), (.inl 0, List.replicate 5 none), (.inl 0, List.replicate 5 none), (.inr 4, [some 218, some 219, some 220, some 13]), (.inl 0, List.replicate 5 none), (.inl 0, List.replicate 5 none), (.inl 0, List.replicate 5 none), (.inr 9, [some 222, some 228]), (.inr 2, [some 223, some 224, some 225, some 226, some 227, none, none]), (.inl 0, List.replicate 5 none), (.inl 0, List.replicate 5 none), (.inl 0, List.replicate 5 none), (.inl 0, List.replicate 5 none), (.inl 0, List.replicate 5 none), (.inr 4, [some 229, some 230, some 231, some 13]), (.inl 0, List.replicate 5 none), (.inl 0, List.replicate 5 none), (.inl 0, List.replicate 5 none), (.inr 9, [some 233, some 239]), (.inr 2, [some 234, some 235, some 236, some 237, some 238, none, none]), (.inl 0, List.replicate 5 none), (.inl 0, List.replicate 5 none), (.inl 0, List.replicate 5 none), (.inl 0, List.replicate 5 none), (.inl 0, List.replicate 5 none), (.inr 4, [some 240, some 241, some 242, some 13])]
def skB6 : List SK := [(.inl 0, List.replicate 5 none), (.inl 0, List.replicate 5 none), (.inl 0, List.replicate 5 none), (.inr 1, [some 244, some 19, some 188, some 13, some 245, some 246, some 247]), (.inl 0, List.replicate 5 none), (.inl 0, List.replicate 5 none), (.inl 0, List.replicate 5 none), (.inl 0, List.replicate 5 none), (.inr 12, [none, some 249, none, none, none, none, some 250, some 251, some 252, some 253, some 254, some 255, some 256, some 257, some 258, some 259, some 260, none, none, none, none, some 261, some 262, some 263, some 264, none, some 265, some 266, some 267, some 268, some 269, some 270, some 271, some 272, none, none, some 273, some 274, some 275, some 276, some 277, some 278, some 279]), (.inl 0, List.replicate 64 none), (.inl 0, List.replicate 5 none), (.inl 0, List.replicate 5 none), (.inl 0, List.replicate 5 none), (.inl 0, List.replicate 5 none), (.inl 0, List.replicate 5 none), (.inl 0, List.replicate 5 none), (.inl 0, List.replicate 5 none), (.inl 0, List.replicate 5 none), (.inl 0, List.replicate 5 none), (.inl 0, List.replicate 5 none), (.inl 0, List.replicate 5 none), (.inl 0, List.replicate 5 none), (.inl 0, List.replicate 5 none), (.inl 0, List.replicate 30 none), (.inl 0, List.replicate 192 none), (.inl 0, List.replicate 72 none), (.inl 1, List.replicate 2 none), (.inl 0, List.replicate 5 none), (.inl 0, List.replicate 5 none), (.inl 0, List.replicate 5 none), (.inl 0, List.replicate 5 none), (.inl 0, List.replicate 5 none), (.inl 0, List.replicate 5 none), (.inl 0, List.replicate 8 none), (.inl 0, List.replicate 8 none), (.inl 0, List.replicate 8 none), (.inl 0, List.replicate 8 none), (.inl 1, List.replicate 8 none), (.inl 0, List.replicate 3 none), (.inl 0, List.replicate 5 none)]
def skB : List SK := skB0 ++ (skB1 ++ (skB2 ++ (skB3 ++ (skB4 ++ (skB5 ++ (skB6))))))
def tyL0 : List (Option (Nat × Nat)) := [none, none, none, none, none, none, none, none, none, none, none, none, none, none, none, none, none, none, none, some (0, 0), some (0, 1), some (0, 2), some (0, 3), some (0, 4), some (0, 5), some (0, 6), some (0, 7), some (0, 8), some (0, 9), some (0, 10), none, none, some (1, 0), some (1, 1), some (1, 2), some (1, 3), some (1, 4), some (1, 5), some (1, 6), some (1, 7)]
def tyL1 : List (Option (Nat × Nat)) := [some (1, 8), some (1, 9), some (1, 10), some (2, 0), some (2, 1), some (2, 2), some (2, 3), some (2, 4), some (2, 5), some (2, 6), some (2, 7), some (2, 8), some (2, 9), some (2, 10), some (3, 0), some (3, 1), some (3, 2), some (3, 3), some (3, 4), some (3, 5), some (3, 6), some (3, 7), some (3, 8), some (3, 9), some (3, 10), some (4, 0), some (4, 1), some (4, 2), some (4, 3), some (4, 4), some (4, 5), some (4, 6), some (4, 7), some (4, 8), some (4, 9), some (4, 10), some (5, 0), some (5, 1), some (5, 2), some (5, 3)]
def tyL2 : List (Option (Nat × Nat)) := [some (5, 4), some (5, 5), some (5, 6), some (5, 7), some (5, 8), some (5, 9), some (5, 10), some (6, 0), some (6, 1), some (6, 2), some (6, 3), some (6, 4), some (6, 5), some (6, 6), some (6, 7), some (6, 8), some (6, 9), some (6, 10), some (7, 0), some (7, 1), some (7, 2), some (7, 3), some (7, 4), some (7, 5), some (7, 6), some (7, 7), some (7, 8), some (7, 9), some (7, 10), some (8, 0), some (8, 1), some (8, 2), some (8, 3), some (8, 4), some (8, 5), some (8, 6), some (8, 7), some (8, 8), some (8, 9), some (8, 10)]
def tyL3 : List (Option (Nat × Nat)) := [some (9, 0), some (9, 1), some (9, 2), some (9, 3), some (9, 4), some (9, 5), some (9, 6), some (9, 7), some (9, 8), some (9, 9), some (9, 10), some (10, 0), some (10, 1), some (10, 2), some (10, 3), some (10, 4), some (10, 5), some (10, 6), some (10, 7), some (10, 8), some (10, 9), some (10, 10), some (11, 0), some (11, 1), some (11, 2), some (11, 3), some (11, 4), some (11, 5), some (11, 6), some (11, 7), some (11, 8), some (11, 9), some (11, 10), some (12, 0), some (12, 1), some (12, 2), some (12, 3), some (12, 4), some (12, 5), some (12, 6)]
def tyL4 : List (Option (Nat × Nat)) := [some (12, 7), some (12, 8), some (12, 9), some (12, 10), none, some (13, 0), some (13, 1), some (13, 2), some (13, 3), some (13, 4), some (13, 5), some (13, 6), some (13, 7), some (13, 8), some (13, 9), some (13, 10), some (14, 0), some (14, 1), some (14, 2), some (14, 3), some (14, 4), some (14, 5), some (14, 6), some (14, 7), some (14, 8), some (14, 9), some (14, 10), none, some (15, 0), some (15, 1), some (15, 2), some (15, 3), some (15, 4), some (15, 5), some (15, 6), some (15, 7), some (15, 8), some (15, 9), some (15, 10), none]
def tyL5 : List (Option (Nat × Nat)) := [none, none, none, none, none, none, none, none, none, none, some (16, 0), some (16, 1), some (16, 2), some (16, 3), some (16, 4), some (16, 5), some (16, 6), some (16, 7), some (16, 8), some (16, 9), some (16, 10), some (17, 0), some (17, 1), some (17, 2), some (17, 3), some (17, 4), some (17, 5), some (17, 6), some (17, 7), some (17, 8), some (17, 9), some (17, 10), some (18, 0), some (18, 1), some (18, 2), some (18, 3), some (18, 4), some (18, 5), some (18, 6), some (18, 7)]
def tyL6 : List (Option (Nat × Nat)) := [some (18, 8), some (18, 9), some (18, 10), none, none, none, none, none, none, none, none, none, none, none, none, none, none, none, none, none, none, none, none, none, none, none, none, none, none, none, none, none, none, none, none, none, none, none, none, none]
def tyL : List (Option (Nat × Nat)) := tyL0 ++ (tyL1 ++ (tyL2 ++ (tyL3 ++ (tyL4 ++ (tyL5 ++ (tyL6))))))

/-- a tower's cell: 0 itself, 1 its kilns, 2 heat, 3 shutter, 4 damper, 5 was, 6 came, 7 its pots, 8 place, 9 has, 10 how; towers: 0 now, 1 .. 12 the row's, 13, 14 the slots', 15 on trial, 16 .. 18 the woods' -/
def tR (t o : Nat) : Nat := (if t = 0 then 19 else if t ≤ 12 then 21 + 11 * t else if t ≤ 14 then 22 + 11 * t else if t = 15 then 188 else 34 + 11 * t) + o
def tyOf (i : Nat) : Option (Nat × Nat) := tyL.getD i none
def skAt (P : Nat → Nat) (i : Nat) : SK := if i = 31 then (.inl 2, (List.range 12).map (fun j => some (tR (P j) 0))) else skB.getD i (.inl 0, [])
def slotVf (g : Int → Int) : Nat → List (Option Nat) → List Value
  | _, [] => []
  | j, some r :: l => .ref r :: slotVf g (j + 1) l
  | j, none :: l => .int (iI (g (j : Int))) :: slotVf g (j + 1) l
def slotV (g : Int → Int) (l : List (Option Nat)) : List Value := slotVf g 0 l
def slotE (g : Int → Int) (j : Nat) (o : Option Nat) : Value := match o with
  | some r => .ref r
  | none => .int (iI (g (j : Int)))
theorem slotVf_get (g : Int → Int) (l : List (Option Nat)) : ∀ (j i : Nat), (slotVf g j l)[i]? = (l[i]?).map (slotE g (j + i)) := by
  induction l with
  | nil => intro j i; simp [slotVf]
  | cons o l ih =>
    intro j i
    cases i with
    | zero => cases o <;> simp [slotVf, slotE]
    | succ i =>
      have h := ih (j + 1) i
      rw [show j + 1 + i = j + (i + 1) by omega] at h
      cases o <;> simpa [slotVf] using h
def cellOf (g : Int → Int) (c : SK) : GC := match c.1 with
  | .inl kd => .inl (kd, slotV g c.2)
  | .inr ci => .inr (ci, slotV g c.2)
def heapF (f : Nat → Int → Int) (P : Nat → Nat) : GH := (List.range 280).map (fun i => cellOf (f i) (skAt P i))
/-- S: the class's cells but the towers; Tw: the towers; M: the reference's -/
def src (S : Nat → Int → Int) (Tw : Nat → Nat → Int → Int) (M : Nat → Int → Int) (i : Nat) : Int → Int := match tyOf i with
  | some (t, o) => Tw t o
  | none => if i < 248 then S i else M (i - 248)
def hO (S : Nat → Int → Int) (Tw : Nat → Nat → Int → Int) (M : Nat → Int → Int) (P : Nat → Nat) : GH := heapF (src S Tw M) P
theorem hO_len {S : Nat → Int → Int} {Tw : Nat → Nat → Int → Int} {M : Nat → Int → Int} {P : Nat → Nat} : (hO S Tw M P).length = 280 := by simp [hO, heapF]
theorem heapF_get {f : Nat → Int → Int} {P : Nat → Nat} {c : Nat} (hc : c < 280) : (heapF f P)[c]? = some (cellOf (f c) (skAt P c)) := by
  unfold heapF
  rw [List.getElem?_map, List.getElem?_range hc]
  rfl
theorem heapF_set {f : Nat → Int → Int} {P : Nat → Nat} {c : Nat} (g : Int → Int) : (heapF f P).set c (cellOf g (skAt P c)) = heapF (fun i => if i = c then g else f i) P := by
  apply List.ext_getElem?
  intro i
  unfold heapF
  rw [List.getElem?_set, List.getElem?_map]
  by_cases hi : c = i
  · subst hi
    rw [if_pos rfl]
    by_cases hc : c < 280
    · rw [List.length_map, List.length_range, if_pos hc, List.getElem?_map, List.getElem?_range hc]
      simp
    · rw [List.length_map, List.length_range, if_neg hc, List.getElem?_map, List.getElem?_eq_none (by simpa using hc)]
      rfl
  · rw [if_neg hi, List.getElem?_map]
    by_cases hc : i < 280
    · rw [List.getElem?_range hc]
      simp [Ne.symm hi]
    · rw [List.getElem?_eq_none (by simpa using hc)]
      rfl
/-- writes -/
def wS (S : Nat → Int → Int) (c : Nat) (j v : Int) : Nat → Int → Int := fun c' j' => if c' = c ∧ j' = j then v else S c' j'
def wT (Tw : Nat → Nat → Int → Int) (t o : Nat) (j v : Int) : Nat → Nat → Int → Int := fun t' o' j' => if t' = t ∧ o' = o ∧ j' = j then v else Tw t' o' j'
/-- whole rows of cells anew -/
def rS (S : Nat → Int → Int) (c : Nat) (g : Int → Int) : Nat → Int → Int := fun c' => if c' = c then g else S c'
def rT (Tw : Nat → Nat → Int → Int) (t o : Nat) (g : Int → Int) : Nat → Nat → Int → Int := fun t' o' => if t' = t ∧ o' = o then g else Tw t' o'
theorem wS_r {S : Nat → Int → Int} {c : Nat} {j v : Int} : rS S c (fun i => if i = j then v else S c i) = wS S c j v := by
  funext c' j'
  unfold rS wS
  by_cases h : c' = c
  · subst h; by_cases h2 : j' = j <;> simp [h2]
  · simp [h]
theorem wT_r {Tw : Nat → Nat → Int → Int} {t o : Nat} {j v : Int} : rT Tw t o (fun i => if i = j then v else Tw t o i) = wT Tw t o j v := by
  funext t' o' j'
  unfold rT wT
  by_cases h : t' = t ∧ o' = o
  · obtain ⟨rfl, rfl⟩ := h; by_cases h2 : j' = j <;> simp [h2]
  · rw [if_neg h, if_neg (fun q => h ⟨q.1, q.2.1⟩)]
def tSk (t o : Nat) : SK := match o with
  | 0 => (.inr 9, [some (tR t 1), some (tR t 7)])
  | 1 => (.inr 2, [some (tR t 2), some (tR t 3), some (tR t 4), some (tR t 5), some (tR t 6), none, none])
  | 7 => (.inr 4, [some (tR t 8), some (tR t 9), some (tR t 10), some 13])
  | _ => (.inl 0, List.replicate 5 none)
def tyB (t o : Nat) : Bool := decide (tyOf (tR t o) = some (t, o)) && decide (tR t o < 248) && decide (tR t o ≠ 31) && decide (skB.getD (tR t o) (.inl 0, []) = tSk t o)
theorem tyB_all : (List.range 19).all (fun t => (List.range 11).all (fun o => tyB t o)) = true := by decide +kernel
theorem tyI_all : (List.range 280).all (fun i => match tyOf i with
  | some (t, o) => decide (tR t o = i)
  | none => true) = true := by decide +kernel
theorem tR_facts {t o : Nat} (ht : t < 19) (ho : o < 11) : tyOf (tR t o) = some (t, o) ∧ tR t o < 248 ∧ tR t o ≠ 31 ∧ skB.getD (tR t o) (.inl 0, []) = tSk t o := by
  have h := List.all_eq_true.mp (List.all_eq_true.mp tyB_all t (List.mem_range.mpr ht)) o (List.mem_range.mpr ho)
  simp only [tyB, Bool.and_eq_true, decide_eq_true_eq] at h
  exact ⟨h.1.1.1, h.1.1.2, h.1.2, h.2⟩
theorem tyL_len : tyL.length ≤ 280 := by decide +kernel
theorem tyOf_inv {i t o : Nat} (h : tyOf i = some (t, o)) : tR t o = i := by
  have hi : i < 280 := by
    refine Nat.lt_of_not_le fun hle => ?_
    unfold tyOf at h
    rw [List.getD_eq_getElem?_getD, List.getElem?_eq_none (Nat.le_trans tyL_len hle)] at h
    cases h
  have h1 := List.all_eq_true.mp tyI_all i (List.mem_range.mpr hi)
  rw [h] at h1
  exact of_decide_eq_true h1
section HO
variable {S : Nat → Int → Int} {Tw : Nat → Nat → Int → Int} {M : Nat → Int → Int} {P : Nat → Nat}
theorem srcT {t o : Nat} (ht : t < 19) (ho : o < 11) : src S Tw M (tR t o) = Tw t o := by
  unfold src
  rw [(tR_facts ht ho).1]
theorem hO_T {t o : Nat} (ht : t < 19) (ho : o < 11) : (hO S Tw M P)[tR t o]? = some (cellOf (Tw t o) (tSk t o)) := by
  obtain ⟨h1, h2, h3, h4⟩ := tR_facts ht ho
  unfold hO
  rw [heapF_get (by omega), srcT ht ho]
  unfold skAt
  rw [if_neg h3, h4]
theorem hO_set {t o : Nat} (ht : t < 19) (ho : o < 11) (g : Int → Int) {c : GC} (hc : c = cellOf g (skAt P (tR t o))) : (hO S Tw M P).set (tR t o) c = hO S (rT Tw t o g) M P := by
  subst hc
  unfold hO
  rw [heapF_set]
  congr 1
  funext i
  by_cases hi : i = tR t o
  · subst hi
    rw [if_pos rfl, srcT ht ho]
    unfold rT
    rw [if_pos ⟨rfl, rfl⟩]
  · rw [if_neg hi]
    unfold src
    cases hy : tyOf i with
    | none => rfl
    | some q =>
      obtain ⟨t', o'⟩ := q
      show Tw t' o' = rT Tw t o g t' o'
      unfold rT
      rw [if_neg (fun q => hi (by obtain ⟨rfl, rfl⟩ := q; exact (tyOf_inv hy).symm))]
theorem hO_setS {c : Nat} (hc : c < 248) (hy : tyOf c = none) (g : Int → Int) {x : GC} (hx : x = cellOf g (skAt P c)) : (hO S Tw M P).set c x = hO (rS S c g) Tw M P := by
  subst hx
  unfold hO
  rw [heapF_set]
  congr 1
  funext i
  unfold src
  by_cases hi : i = c
  · subst hi
    rw [if_pos rfl, hy]
    simp only [if_pos hc, rS, if_true]
  · rw [if_neg hi]
    cases hz : tyOf i with
    | some q => rfl
    | none =>
      by_cases h2 : i < 248
      · simp only [if_pos h2, rS, if_neg hi]
      · simp only [if_neg h2]
theorem hO_setM {c : Nat} (hc : 248 ≤ c) (hy : tyOf c = none) (g : Int → Int) {x : GC} (hx : x = cellOf g (skAt P c)) : (hO S Tw M P).set c x = hO S Tw (rS M (c - 248) g) P := by
  subst hx
  unfold hO
  rw [heapF_set]
  congr 1
  funext i
  unfold src
  by_cases hi : i = c
  · subst hi
    rw [if_pos rfl, hy]
    simp only [if_neg (Nat.not_lt.mpr hc), rS, if_true]
  · rw [if_neg hi]
    cases hz : tyOf i with
    | some q => rfl
    | none =>
      by_cases h2 : i < 248
      · simp only [if_pos h2]
      · simp only [if_neg h2, rS]
        rw [if_neg (fun q => hi (by omega))]
theorem hO_S {c : Nat} (hc : c < 248) (hy : tyOf c = none) : (hO S Tw M P)[c]? = some (cellOf (S c) (skAt P c)) := by
  unfold hO
  rw [heapF_get (by omega)]
  unfold src
  rw [hy]
  simp only [if_pos hc]
theorem hO_M {c : Nat} (hc : 248 ≤ c) (hc2 : c < 280) (hy : tyOf c = none) : (hO S Tw M P)[c]? = some (cellOf (M (c - 248)) (skAt P c)) := by
  unfold hO
  rw [heapF_get hc2]
  unfold src
  rw [hy]
  simp only [if_neg (Nat.not_lt.mpr hc)]
/-- n ints -/
def vec (n : Nat) (g : Int → Int) : List Value := (List.range n).map (fun (j : Nat) => .int (iI (g j)))
theorem slotV_vec (n : Nat) (g : Int → Int) : slotV g (List.replicate n none) = vec n g := by
  apply List.ext_getElem?
  intro i
  unfold slotV vec
  rw [slotVf_get, List.getElem?_map, List.getElem?_replicate]
  by_cases h : i < n
  · rw [if_pos h, List.getElem?_range h]
    simp [slotE]
  · rw [if_neg h, List.getElem?_eq_none (by simpa using h)]; rfl
theorem vec_len {n : Nat} {g : Int → Int} : (vec n g).length = n := by simp [vec]
theorem vec_get {n : Nat} {g : Int → Int} {e : Int} (h0 : 0 ≤ e) (h1 : e < n) : (vec n g)[e.toNat]? = some (.int (iI (g e))) := by
  unfold vec
  rw [List.getElem?_map, List.getElem?_range (by omega)]
  simp only [Option.map_some]
  rw [show ((e.toNat : Nat) : Int) = e by omega]
theorem vec_set {n : Nat} {g : Int → Int} {e v : Int} (h0 : 0 ≤ e) (h1 : e < n) : (vec n g).set e.toNat (.int (iI v)) = vec n (fun i => if i = e then v else g i) := by
  apply List.ext_getElem?
  intro i
  rw [List.getElem?_set]
  unfold vec
  by_cases hi : e.toNat = i
  · subst hi
    rw [if_pos rfl, List.length_map, List.length_range, if_pos (by omega), List.getElem?_map, List.getElem?_range (by omega)]
    simp only [Option.map_some]
    rw [if_pos (by omega)]
  · rw [if_neg hi, List.getElem?_map, List.getElem?_map]
    by_cases h : i < n
    · rw [List.getElem?_range h]
      simp only [Option.map_some]
      rw [if_neg (by omega)]
    · rw [List.getElem?_eq_none (by simpa using h)]
      rfl
end HO
