def sOp (c a b : Int) : Int := if c = 11 then a + b else if (if c = 12 then decide (a < b) else if c = 13 then decide (b < a) else if c = 15 then decide (a + b = 2) else decide (0 < a + b)) = true then 1 else 0
def sEv (f : Int → Int → Int) : List (Int × Int) → List Int → Option (List Int)
  | [], st => some st
  | (c, a) :: t, st => if c ≤ 10 then sEv f t (f c a :: st) else if c = 14 then (match st with
      | x :: r => sEv f t ((1 - x) :: r)
      | [] => none) else (match st with
      | b :: a :: r => sEv f t (sOp c a b :: r)
      | _ => none)
theorem sEv_cons (f : Int → Int → Int) (c a : Int) (t : List (Int × Int)) (st : List Int) : sEv f ((c, a) :: t) st = (if c ≤ 10 then sEv f t (f c a :: st) else if c = 14 then (match st with
      | x :: r => sEv f t ((1 - x) :: r)
      | [] => none) else (match st with
      | b :: a :: r => sEv f t (sOp c a b :: r)
      | _ => none)) := by rw [sEv.eq_def]
theorem sEv_nil (f : Int → Int → Int) (st : List Int) : sEv f [] st = some st := by rw [sEv.eq_def]
def wCode (w : Int → Int) (i : Int) : Nat → List (Int × Int)
  | 0 => []
  | k + 1 => (w (1952 + 2 * i), w (1952 + 2 * i + 1)) :: wCode w (i + 1) k
def sRep (u : Int → Int) : List Int → Prop
  | [] => True
  | x :: r => u (r.length : Int) = x ∧ sRep u r
theorem sRep_S {u : Int → Int} {k v : Int} : ∀ {r : List Int}, sRep u r → (r.length : Int) ≤ k → sRep (wS u k v) r
  | [], _, _ => trivial
  | x :: r, h, hk => by
    simp only [List.length_cons] at hk
    refine ⟨?_, sRep_S h.2 (by omega)⟩
    rw [wS_ne _ _ _ (by omega)]; exact h.1
def xab (x : Int) : Int := if x < 0 then -x else x
def sAb : List Int → Int
  | [] => 0
  | x :: r => xab x + sAb r
theorem xab_bd (x : Int) : -xab x ≤ x ∧ x ≤ xab x ∧ 0 ≤ xab x := by unfold xab; split <;> omega
theorem sAb_nn : ∀ r : List Int, 0 ≤ sAb r
  | [] => Int.le_refl _
  | x :: r => by have := sAb_nn r; have := xab_bd x; rw [sAb]; omega
theorem sOp_add {c a b : Int} (h : c = 11) : sOp c a b = a + b := by unfold sOp; rw [if_pos h]
theorem sOp_lt0 {c a b : Int} (h : c = 12) (q : b ≤ a) : sOp c a b = 0 := by unfold sOp; rw [if_neg (show ¬ c = 11 by omega), if_pos h, if_neg (fun t => absurd (of_decide_eq_true t) (by omega))]
theorem sOp_lt1 {c a b : Int} (h : c = 12) (q : a < b) : sOp c a b = 1 := by unfold sOp; rw [if_neg (show ¬ c = 11 by omega), if_pos h, if_pos (decide_eq_true q)]
theorem sOp_gt0 {c a b : Int} (h : c = 13) (q : a ≤ b) : sOp c a b = 0 := by unfold sOp; rw [if_neg (show ¬ c = 11 by omega), if_neg (show ¬ c = 12 by omega), if_pos h, if_neg (fun t => absurd (of_decide_eq_true t) (by omega))]
theorem sOp_gt1 {c a b : Int} (h : c = 13) (q : b < a) : sOp c a b = 1 := by unfold sOp; rw [if_neg (show ¬ c = 11 by omega), if_neg (show ¬ c = 12 by omega), if_pos h, if_pos (decide_eq_true q)]
theorem sOp_and0 {c a b : Int} (h : c = 15) (q : a + b ≠ 2) : sOp c a b = 0 := by unfold sOp; rw [if_neg (show ¬ c = 11 by omega), if_neg (show ¬ c = 12 by omega), if_neg (show ¬ c = 13 by omega), if_pos h, if_neg (fun t => absurd (of_decide_eq_true t) q)]
theorem sOp_and1 {c a b : Int} (h : c = 15) (q : a + b = 2) : sOp c a b = 1 := by unfold sOp; rw [if_neg (show ¬ c = 11 by omega), if_neg (show ¬ c = 12 by omega), if_neg (show ¬ c = 13 by omega), if_pos h, if_pos (decide_eq_true q)]
theorem sOp_or0 {c a b : Int} (h2 : c ≠ 12) (h3 : c ≠ 13) (h5 : c ≠ 15) (h1 : c ≠ 11) (q : a + b ≤ 0) : sOp c a b = 0 := by unfold sOp; rw [if_neg h1, if_neg h2, if_neg h3, if_neg h5, if_neg (fun t => absurd (of_decide_eq_true t) (by omega))]
theorem sOp_or1 {c a b : Int} (h2 : c ≠ 12) (h3 : c ≠ 13) (h5 : c ≠ 15) (h1 : c ≠ 11) (q : 0 < a + b) : sOp c a b = 1 := by unfold sOp; rw [if_neg h1, if_neg h2, if_neg h3, if_neg h5, if_pos (decide_eq_true q)]
theorem sOp_bd (c a b : Int) : xab (sOp c a b) ≤ xab a + xab b + 1 := by
  have h1 := xab_bd a
  have h2 := xab_bd b
  unfold sOp
  split
  · unfold xab at h1 h2 ⊢; repeat' split
    all_goals (repeat' split at h1); all_goals (repeat' split at h2); all_goals omega
  · have h : ∀ e : Bool, xab (if e = true then 1 else 0) ≤ 1 := by intro e; cases e <;> decide
    exact Int.le_trans (h _) (by omega)
theorem xab_not (x : Int) : xab (1 - x) ≤ xab x + 1 := by unfold xab; (repeat' split) <;> omega
def wFrom (w : Int → Int) (n : Int) : Int := w (1904 + 4 * n + 2)
def wTo (w : Int → Int) (n : Int) : Int := w (1904 + 4 * n + 3)
def wLcode (w : Int → Int) (n : Int) : List (Int × Int) := wCode w (wFrom w n) (wTo w n - wFrom w n).toNat
/-- the line n of the law is as reading leaves it -/
def wLine (w : Int → Int) (n : Int) : Prop := (0 ≤ w (1904 + 4 * n) ∧ w (1904 + 4 * n) ≤ 2) ∧ (0 ≤ w (1904 + 4 * n + 1) ∧ w (1904 + 4 * n + 1) ≤ 40) ∧ (0 ≤ wFrom w n ∧ wFrom w n ≤ wTo w n ∧ wTo w n ≤ 400) ∧
  (∀ i : Int, wFrom w n ≤ i → i < wTo w n → (0 ≤ w (1952 + 2 * i) ∧ w (1952 + 2 * i) ≤ 16) ∧ 0 ≤ w (1952 + 2 * i + 1) ∧ w (1952 + 2 * i + 1) ≤ 999) ∧
  ∀ f : Int → Int → Int, ∃ fin, sEv f (wLcode w n) [] = some fin ∧ fin.length ≤ 1
def wLw (w : Int → Int) : Prop := w 2 = 1 → (0 ≤ w 1903 ∧ w 1903 ≤ 12) ∧ ∀ n : Nat, (n : Int) < w 1903 → wLine w n
noncomputable def sHolds (w : Int → Int) (n level : Int) : Bool := match sEv (sFact w level) (wLcode w n) [] with
  | some (v :: _) => decide (v = 1)
  | _ => true
theorem dX12_holdsLine_0 : decode cX12_holdsLine 0 = .ok (.iconst 0, 1) := by decide +kernel
theorem dX12_holdsLine_1 : decode cX12_holdsLine 1 = .ok (.istore_n 3, 1) := by decide +kernel
theorem dX12_holdsLine_2 : decode cX12_holdsLine 2 = .ok (.sipush 1904, 3) := by decide +kernel
theorem dX12_holdsLine_5 : decode cX12_holdsLine 5 = .ok (.iconst 4, 1) := by decide +kernel
theorem dX12_holdsLine_6 : decode cX12_holdsLine 6 = .ok (.iload_n 1, 1) := by decide +kernel
theorem dX12_holdsLine_7 : decode cX12_holdsLine 7 = .ok (.imul, 1) := by decide +kernel
theorem dX12_holdsLine_8 : decode cX12_holdsLine 8 = .ok (.iadd, 1) := by decide +kernel
theorem dX12_holdsLine_9 : decode cX12_holdsLine 9 = .ok (.istore 4, 2) := by decide +kernel
theorem dX12_holdsLine_11 : decode cX12_holdsLine 11 = .ok (.aload_n 0, 1) := by decide +kernel
theorem dX12_holdsLine_12 : decode cX12_holdsLine 12 = .ok (.getfield 13, 3) := by decide +kernel
theorem dX12_holdsLine_15 : decode cX12_holdsLine 15 = .ok (.iload 4, 2) := by decide +kernel
theorem dX12_holdsLine_17 : decode cX12_holdsLine 17 = .ok (.iconst 2, 1) := by decide +kernel
theorem dX12_holdsLine_18 : decode cX12_holdsLine 18 = .ok (.iadd, 1) := by decide +kernel
theorem dX12_holdsLine_19 : decode cX12_holdsLine 19 = .ok (.iaload, 1) := by decide +kernel
theorem dX12_holdsLine_20 : decode cX12_holdsLine 20 = .ok (.istore 5, 2) := by decide +kernel
theorem dX12_holdsLine_22 : decode cX12_holdsLine 22 = .ok (.iload 5, 2) := by decide +kernel
theorem dX12_holdsLine_24 : decode cX12_holdsLine 24 = .ok (.aload_n 0, 1) := by decide +kernel
theorem dX12_holdsLine_25 : decode cX12_holdsLine 25 = .ok (.getfield 13, 3) := by decide +kernel
theorem dX12_holdsLine_28 : decode cX12_holdsLine 28 = .ok (.iload 4, 2) := by decide +kernel
theorem dX12_holdsLine_30 : decode cX12_holdsLine 30 = .ok (.iconst 3, 1) := by decide +kernel
theorem dX12_holdsLine_31 : decode cX12_holdsLine 31 = .ok (.iadd, 1) := by decide +kernel
theorem dX12_holdsLine_32 : decode cX12_holdsLine 32 = .ok (.iaload, 1) := by decide +kernel
theorem dX12_holdsLine_33 : decode cX12_holdsLine 33 = .ok (.if_icmp .ge 230, 3) := by decide +kernel
theorem dX12_holdsLine_36 : decode cX12_holdsLine 36 = .ok (.aload_n 0, 1) := by decide +kernel
theorem dX12_holdsLine_37 : decode cX12_holdsLine 37 = .ok (.getfield 13, 3) := by decide +kernel
theorem dX12_holdsLine_40 : decode cX12_holdsLine 40 = .ok (.sipush 1952, 3) := by decide +kernel
theorem dX12_holdsLine_43 : decode cX12_holdsLine 43 = .ok (.iconst 2, 1) := by decide +kernel
theorem dX12_holdsLine_44 : decode cX12_holdsLine 44 = .ok (.iload 5, 2) := by decide +kernel
theorem dX12_holdsLine_46 : decode cX12_holdsLine 46 = .ok (.imul, 1) := by decide +kernel
theorem dX12_holdsLine_47 : decode cX12_holdsLine 47 = .ok (.iadd, 1) := by decide +kernel
theorem dX12_holdsLine_48 : decode cX12_holdsLine 48 = .ok (.iaload, 1) := by decide +kernel
theorem dX12_holdsLine_49 : decode cX12_holdsLine 49 = .ok (.istore 6, 2) := by decide +kernel
theorem dX12_holdsLine_51 : decode cX12_holdsLine 51 = .ok (.iload 6, 2) := by decide +kernel
theorem dX12_holdsLine_53 : decode cX12_holdsLine 53 = .ok (.bipush 10, 2) := by decide +kernel
theorem dX12_holdsLine_55 : decode cX12_holdsLine 55 = .ok (.if_icmp .gt 37, 3) := by decide +kernel
theorem dX12_holdsLine_58 : decode cX12_holdsLine 58 = .ok (.aload_n 0, 1) := by decide +kernel
theorem dX12_holdsLine_59 : decode cX12_holdsLine 59 = .ok (.getfield 39, 3) := by decide +kernel
theorem dX12_holdsLine_62 : decode cX12_holdsLine 62 = .ok (.iload_n 3, 1) := by decide +kernel
theorem dX12_holdsLine_63 : decode cX12_holdsLine 63 = .ok (.aload_n 0, 1) := by decide +kernel
theorem dX12_holdsLine_64 : decode cX12_holdsLine 64 = .ok (.iload 6, 2) := by decide +kernel
theorem dX12_holdsLine_66 : decode cX12_holdsLine 66 = .ok (.aload_n 0, 1) := by decide +kernel
theorem dX12_holdsLine_67 : decode cX12_holdsLine 67 = .ok (.getfield 13, 3) := by decide +kernel
theorem dX12_holdsLine_70 : decode cX12_holdsLine 70 = .ok (.sipush 1952, 3) := by decide +kernel
theorem dX12_holdsLine_73 : decode cX12_holdsLine 73 = .ok (.iconst 2, 1) := by decide +kernel
theorem dX12_holdsLine_74 : decode cX12_holdsLine 74 = .ok (.iload 5, 2) := by decide +kernel
theorem dX12_holdsLine_76 : decode cX12_holdsLine 76 = .ok (.imul, 1) := by decide +kernel
theorem dX12_holdsLine_77 : decode cX12_holdsLine 77 = .ok (.iadd, 1) := by decide +kernel
theorem dX12_holdsLine_78 : decode cX12_holdsLine 78 = .ok (.iconst 1, 1) := by decide +kernel
theorem dX12_holdsLine_79 : decode cX12_holdsLine 79 = .ok (.iadd, 1) := by decide +kernel
theorem dX12_holdsLine_80 : decode cX12_holdsLine 80 = .ok (.iaload, 1) := by decide +kernel
theorem dX12_holdsLine_81 : decode cX12_holdsLine 81 = .ok (.iload_n 2, 1) := by decide +kernel
theorem dX12_holdsLine_82 : decode cX12_holdsLine 82 = .ok (.invokevirtual 271, 3) := by decide +kernel
theorem dX12_holdsLine_85 : decode cX12_holdsLine 85 = .ok (.iastore, 1) := by decide +kernel
theorem dX12_holdsLine_86 : decode cX12_holdsLine 86 = .ok (.iinc 3 1, 3) := by decide +kernel
theorem dX12_holdsLine_89 : decode cX12_holdsLine 89 = .ok (.goto 168, 3) := by decide +kernel
theorem dX12_holdsLine_92 : decode cX12_holdsLine 92 = .ok (.iload 6, 2) := by decide +kernel
theorem dX12_holdsLine_94 : decode cX12_holdsLine 94 = .ok (.bipush 14, 2) := by decide +kernel
theorem dX12_holdsLine_96 : decode cX12_holdsLine 96 = .ok (.if_icmp .ne 24, 3) := by decide +kernel
theorem dX12_holdsLine_99 : decode cX12_holdsLine 99 = .ok (.aload_n 0, 1) := by decide +kernel
theorem dX12_holdsLine_100 : decode cX12_holdsLine 100 = .ok (.getfield 39, 3) := by decide +kernel
theorem dX12_holdsLine_103 : decode cX12_holdsLine 103 = .ok (.iload_n 3, 1) := by decide +kernel
theorem dX12_holdsLine_104 : decode cX12_holdsLine 104 = .ok (.iconst 1, 1) := by decide +kernel
theorem dX12_holdsLine_105 : decode cX12_holdsLine 105 = .ok (.isub, 1) := by decide +kernel
theorem dX12_holdsLine_106 : decode cX12_holdsLine 106 = .ok (.iconst 1, 1) := by decide +kernel
theorem dX12_holdsLine_107 : decode cX12_holdsLine 107 = .ok (.aload_n 0, 1) := by decide +kernel
theorem dX12_holdsLine_108 : decode cX12_holdsLine 108 = .ok (.getfield 39, 3) := by decide +kernel
theorem dX12_holdsLine_111 : decode cX12_holdsLine 111 = .ok (.iload_n 3, 1) := by decide +kernel
theorem dX12_holdsLine_112 : decode cX12_holdsLine 112 = .ok (.iconst 1, 1) := by decide +kernel
theorem dX12_holdsLine_113 : decode cX12_holdsLine 113 = .ok (.isub, 1) := by decide +kernel
theorem dX12_holdsLine_114 : decode cX12_holdsLine 114 = .ok (.iaload, 1) := by decide +kernel
theorem dX12_holdsLine_115 : decode cX12_holdsLine 115 = .ok (.isub, 1) := by decide +kernel
theorem dX12_holdsLine_116 : decode cX12_holdsLine 116 = .ok (.iastore, 1) := by decide +kernel
theorem dX12_holdsLine_117 : decode cX12_holdsLine 117 = .ok (.goto 140, 3) := by decide +kernel
theorem dX12_holdsLine_120 : decode cX12_holdsLine 120 = .ok (.iinc 3 (-1), 3) := by decide +kernel
theorem dX12_holdsLine_123 : decode cX12_holdsLine 123 = .ok (.aload_n 0, 1) := by decide +kernel
theorem dX12_holdsLine_124 : decode cX12_holdsLine 124 = .ok (.getfield 39, 3) := by decide +kernel
theorem dX12_holdsLine_127 : decode cX12_holdsLine 127 = .ok (.iload_n 3, 1) := by decide +kernel
theorem dX12_holdsLine_128 : decode cX12_holdsLine 128 = .ok (.iconst 1, 1) := by decide +kernel
theorem dX12_holdsLine_129 : decode cX12_holdsLine 129 = .ok (.isub, 1) := by decide +kernel
theorem dX12_holdsLine_130 : decode cX12_holdsLine 130 = .ok (.iaload, 1) := by decide +kernel
theorem dX12_holdsLine_131 : decode cX12_holdsLine 131 = .ok (.istore 7, 2) := by decide +kernel
theorem dX12_holdsLine_133 : decode cX12_holdsLine 133 = .ok (.aload_n 0, 1) := by decide +kernel
theorem dX12_holdsLine_134 : decode cX12_holdsLine 134 = .ok (.getfield 39, 3) := by decide +kernel
theorem dX12_holdsLine_137 : decode cX12_holdsLine 137 = .ok (.iload_n 3, 1) := by decide +kernel
theorem dX12_holdsLine_138 : decode cX12_holdsLine 138 = .ok (.iaload, 1) := by decide +kernel
theorem dX12_holdsLine_139 : decode cX12_holdsLine 139 = .ok (.istore 8, 2) := by decide +kernel
theorem dX12_holdsLine_141 : decode cX12_holdsLine 141 = .ok (.iload 6, 2) := by decide +kernel
theorem dX12_holdsLine_143 : decode cX12_holdsLine 143 = .ok (.bipush 12, 2) := by decide +kernel
theorem dX12_holdsLine_145 : decode cX12_holdsLine 145 = .ok (.if_icmp .ne 18, 3) := by decide +kernel
theorem dX12_holdsLine_148 : decode cX12_holdsLine 148 = .ok (.iload 7, 2) := by decide +kernel
theorem dX12_holdsLine_150 : decode cX12_holdsLine 150 = .ok (.iload 8, 2) := by decide +kernel
theorem dX12_holdsLine_152 : decode cX12_holdsLine 152 = .ok (.if_icmp .ge 7, 3) := by decide +kernel
theorem dX12_holdsLine_155 : decode cX12_holdsLine 155 = .ok (.iconst 1, 1) := by decide +kernel
theorem dX12_holdsLine_156 : decode cX12_holdsLine 156 = .ok (.goto 66, 3) := by decide +kernel
theorem dX12_holdsLine_159 : decode cX12_holdsLine 159 = .ok (.iconst 0, 1) := by decide +kernel
theorem dX12_holdsLine_160 : decode cX12_holdsLine 160 = .ok (.goto 62, 3) := by decide +kernel
theorem dX12_holdsLine_163 : decode cX12_holdsLine 163 = .ok (.iload 6, 2) := by decide +kernel
theorem dX12_holdsLine_165 : decode cX12_holdsLine 165 = .ok (.bipush 13, 2) := by decide +kernel
theorem dX12_holdsLine_167 : decode cX12_holdsLine 167 = .ok (.if_icmp .ne 18, 3) := by decide +kernel
theorem dX12_holdsLine_170 : decode cX12_holdsLine 170 = .ok (.iload 7, 2) := by decide +kernel
theorem dX12_holdsLine_172 : decode cX12_holdsLine 172 = .ok (.iload 8, 2) := by decide +kernel
theorem dX12_holdsLine_174 : decode cX12_holdsLine 174 = .ok (.if_icmp .le 7, 3) := by decide +kernel
theorem dX12_holdsLine_177 : decode cX12_holdsLine 177 = .ok (.iconst 1, 1) := by decide +kernel
theorem dX12_holdsLine_178 : decode cX12_holdsLine 178 = .ok (.goto 44, 3) := by decide +kernel
theorem dX12_holdsLine_181 : decode cX12_holdsLine 181 = .ok (.iconst 0, 1) := by decide +kernel
theorem dX12_holdsLine_182 : decode cX12_holdsLine 182 = .ok (.goto 40, 3) := by decide +kernel
theorem dX12_holdsLine_185 : decode cX12_holdsLine 185 = .ok (.iload 6, 2) := by decide +kernel
theorem dX12_holdsLine_187 : decode cX12_holdsLine 187 = .ok (.bipush 15, 2) := by decide +kernel
theorem dX12_holdsLine_189 : decode cX12_holdsLine 189 = .ok (.if_icmp .ne 20, 3) := by decide +kernel
theorem dX12_holdsLine_192 : decode cX12_holdsLine 192 = .ok (.iload 7, 2) := by decide +kernel
theorem dX12_holdsLine_194 : decode cX12_holdsLine 194 = .ok (.iload 8, 2) := by decide +kernel
theorem dX12_holdsLine_196 : decode cX12_holdsLine 196 = .ok (.iadd, 1) := by decide +kernel
theorem dX12_holdsLine_197 : decode cX12_holdsLine 197 = .ok (.iconst 2, 1) := by decide +kernel
theorem dX12_holdsLine_198 : decode cX12_holdsLine 198 = .ok (.if_icmp .ne 7, 3) := by decide +kernel
theorem dX12_holdsLine_201 : decode cX12_holdsLine 201 = .ok (.iconst 1, 1) := by decide +kernel
theorem dX12_holdsLine_202 : decode cX12_holdsLine 202 = .ok (.goto 20, 3) := by decide +kernel
theorem dX12_holdsLine_205 : decode cX12_holdsLine 205 = .ok (.iconst 0, 1) := by decide +kernel
theorem dX12_holdsLine_206 : decode cX12_holdsLine 206 = .ok (.goto 16, 3) := by decide +kernel
theorem dX12_holdsLine_209 : decode cX12_holdsLine 209 = .ok (.iload 7, 2) := by decide +kernel
theorem dX12_holdsLine_211 : decode cX12_holdsLine 211 = .ok (.iload 8, 2) := by decide +kernel
theorem dX12_holdsLine_213 : decode cX12_holdsLine 213 = .ok (.iadd, 1) := by decide +kernel
theorem dX12_holdsLine_214 : decode cX12_holdsLine 214 = .ok (.ifCond .le 7, 3) := by decide +kernel
theorem dX12_holdsLine_217 : decode cX12_holdsLine 217 = .ok (.iconst 1, 1) := by decide +kernel
theorem dX12_holdsLine_218 : decode cX12_holdsLine 218 = .ok (.goto 4, 3) := by decide +kernel
theorem dX12_holdsLine_221 : decode cX12_holdsLine 221 = .ok (.iconst 0, 1) := by decide +kernel
theorem dX12_holdsLine_222 : decode cX12_holdsLine 222 = .ok (.istore 9, 2) := by decide +kernel
theorem dX12_holdsLine_224 : decode cX12_holdsLine 224 = .ok (.aload_n 0, 1) := by decide +kernel
theorem dX12_holdsLine_225 : decode cX12_holdsLine 225 = .ok (.getfield 39, 3) := by decide +kernel
theorem dX12_holdsLine_228 : decode cX12_holdsLine 228 = .ok (.iload_n 3, 1) := by decide +kernel
theorem dX12_holdsLine_229 : decode cX12_holdsLine 229 = .ok (.iconst 1, 1) := by decide +kernel
theorem dX12_holdsLine_230 : decode cX12_holdsLine 230 = .ok (.isub, 1) := by decide +kernel
theorem dX12_holdsLine_231 : decode cX12_holdsLine 231 = .ok (.iload 6, 2) := by decide +kernel
theorem dX12_holdsLine_233 : decode cX12_holdsLine 233 = .ok (.bipush 11, 2) := by decide +kernel
theorem dX12_holdsLine_235 : decode cX12_holdsLine 235 = .ok (.if_icmp .ne 11, 3) := by decide +kernel
theorem dX12_holdsLine_238 : decode cX12_holdsLine 238 = .ok (.iload 7, 2) := by decide +kernel
theorem dX12_holdsLine_240 : decode cX12_holdsLine 240 = .ok (.iload 8, 2) := by decide +kernel
theorem dX12_holdsLine_242 : decode cX12_holdsLine 242 = .ok (.iadd, 1) := by decide +kernel
theorem dX12_holdsLine_243 : decode cX12_holdsLine 243 = .ok (.goto 13, 3) := by decide +kernel
theorem dX12_holdsLine_246 : decode cX12_holdsLine 246 = .ok (.iload 9, 2) := by decide +kernel
theorem dX12_holdsLine_248 : decode cX12_holdsLine 248 = .ok (.ifCond .eq 7, 3) := by decide +kernel
theorem dX12_holdsLine_251 : decode cX12_holdsLine 251 = .ok (.iconst 1, 1) := by decide +kernel
theorem dX12_holdsLine_252 : decode cX12_holdsLine 252 = .ok (.goto 4, 3) := by decide +kernel
theorem dX12_holdsLine_255 : decode cX12_holdsLine 255 = .ok (.iconst 0, 1) := by decide +kernel
theorem dX12_holdsLine_256 : decode cX12_holdsLine 256 = .ok (.iastore, 1) := by decide +kernel
theorem dX12_holdsLine_257 : decode cX12_holdsLine 257 = .ok (.iinc 5 1, 3) := by decide +kernel
theorem dX12_holdsLine_260 : decode cX12_holdsLine 260 = .ok (.goto (-238), 3) := by decide +kernel
theorem dX12_holdsLine_263 : decode cX12_holdsLine 263 = .ok (.iload_n 3, 1) := by decide +kernel
theorem dX12_holdsLine_264 : decode cX12_holdsLine 264 = .ok (.ifCond .eq 13, 3) := by decide +kernel
theorem dX12_holdsLine_267 : decode cX12_holdsLine 267 = .ok (.aload_n 0, 1) := by decide +kernel
theorem dX12_holdsLine_268 : decode cX12_holdsLine 268 = .ok (.getfield 39, 3) := by decide +kernel
theorem dX12_holdsLine_271 : decode cX12_holdsLine 271 = .ok (.iconst 0, 1) := by decide +kernel
theorem dX12_holdsLine_272 : decode cX12_holdsLine 272 = .ok (.iaload, 1) := by decide +kernel
theorem dX12_holdsLine_273 : decode cX12_holdsLine 273 = .ok (.iconst 1, 1) := by decide +kernel
theorem dX12_holdsLine_274 : decode cX12_holdsLine 274 = .ok (.if_icmp .ne 7, 3) := by decide +kernel
theorem dX12_holdsLine_277 : decode cX12_holdsLine 277 = .ok (.iconst 1, 1) := by decide +kernel
theorem dX12_holdsLine_278 : decode cX12_holdsLine 278 = .ok (.goto 4, 3) := by decide +kernel
theorem dX12_holdsLine_281 : decode cX12_holdsLine 281 = .ok (.iconst 0, 1) := by decide +kernel
theorem dX12_holdsLine_282 : decode cX12_holdsLine 282 = .ok (.ireturn, 1) := by decide +kernel
set_option maxHeartbeats 4000000 in
set_option maxRecDepth 100000 in
theorem ct_X12_holdsLine {E : xE} {z : Nat} {T : Nat → Nat × Int} {F : Nat → Nat → Int} {I : Nat → Int → Int} {P : Nat → Nat → Option Nat} {Y : Nat → Int → Option Nat} {m : Nat} {w : Int → Int} (hw : wM T P m) (hO : wOk w){n level : Int} (hn : 0 ≤ n ∧ n < 12) (hl : 0 ≤ level ∧ level < 4) (hLn : wLine w n) : Ct E 6 mX12_holdsLine 0 0 [.ref m, J n, J level] (z, T, F, upA I (m + 1) w, P, Y) (xs m (some (J (bI (sHolds w n level)))) z T F I (w) P Y) := by
  obtain ⟨⟨q0, q1, q2, q3⟩, -, -, -, -, -, -, ⟨v1, v2, v3⟩, -⟩ := id hw
  have v4 : m + 8 ≠ m + 1 := by omega
  have hR := hO.1
  obtain ⟨l1, l2, l3, l4, l5⟩ := hLn
  obtain ⟨fin, l6, l7⟩ := l5 (sFact w level)
  refine Ct.of [some (.ref m), some (J n), some (J level), none, none, none, none, none, none, none] kt_X12_holdsLine rfl (Nat.le_of_ble_eq_true rfl) rfl (fun d hd => ?_)
  generalize hX : xN E _ _ _ = X
  refine xg_iconst 1 dX12_holdsLine_0 rfl ?_
  refine xg_istoren 2 _ dX12_holdsLine_1 rfl rfl rfl (by decide) (Or.inr rfl) ?_
  refine xg_sipush 5 dX12_holdsLine_2 rfl (by decide) ?_
  refine xg_iconst 6 dX12_holdsLine_5 rfl ?_
  refine xg_iloadn 7 dX12_holdsLine_6 rfl rfl rfl ?_
  refine xg_imul 8 dX12_holdsLine_7 rfl ?_
  refine xg_iadd 9 dX12_holdsLine_8 rfl ?_
  refine xg_istore 11 _ dX12_holdsLine_9 rfl rfl (by decide) (Or.inr rfl) ?_
  refine xg_aloadn 12 dX12_holdsLine_11 rfl rfl rfl ?_
  refine xg_getP 15 kf_RX12_13 dX12_holdsLine_12 rfl (by assumption) (by assumption) ?_
  refine xg_iload 17 dX12_holdsLine_15 rfl rfl ?_
  refine xg_iconst 18 dX12_holdsLine_17 rfl ?_
  refine xg_iadd 19 dX12_holdsLine_18 rfl ?_
  refine xg_ialdW 20 dX12_holdsLine_19 rfl (by assumption) (by first | omega | exact hR _ | exact ⟨hR _, by omega⟩ | exact ⟨by omega, hR _⟩ | exact ⟨hR _, hR _⟩) ?_
  refine xg_istore 22 _ dX12_holdsLine_20 rfl rfl (by decide) (Or.inr rfl) ?_
  have loop22 : ∀ (mm : Nat) (k : Nat) (i t : Int) (s : List Int) (u : Int → Int), (wFrom w n ≤ i ∧ i + k = wTo w n) → t = (s.length : Int) → sEv (sFact w level) (wCode w i k) s = some fin → sRep u s → ((s.length : Int) ≤ i - wFrom w n) → (sAb s ≤ 20000 * (i - wFrom w n)) → (k : Int) < (mm : Int) → xG E mX12_holdsLine (xR d 0 0) X 22 [some (.ref m), some (J n), some (J level), some (J t), some (J (1904 + 4 * n)), some (J i), none, none, none, none] [] (z, T, F, upA (upA I (m + 8) u) (m + 1) w, P, Y) 0 0 := by
    intro mm
    induction mm with
    | zero => intro k i t s u hi hs he hrep hlen hab hm; exfalso; omega
    | succ mm ih =>
      intro k i t s u hi hs he hrep hlen hab hm
      have htw : w (1904 + 4 * n + 3) = wTo w n := rfl
      have hfw : w (1904 + 4 * n + 2) = wFrom w n := rfl
      have hnn := sAb_nn s
      refine xg_iload 24 dX12_holdsLine_22 rfl rfl ?_
      refine xg_aloadn 25 dX12_holdsLine_24 rfl rfl rfl ?_
      refine xg_getP 28 kf_RX12_13 dX12_holdsLine_25 rfl (by assumption) (by assumption) ?_
      refine xg_iload 30 dX12_holdsLine_28 rfl rfl ?_
      refine xg_iconst 31 dX12_holdsLine_30 rfl ?_
      refine xg_iadd 32 dX12_holdsLine_31 rfl ?_
      refine xg_ialdW 33 dX12_holdsLine_32 rfl (by assumption) (by first | omega | exact hR _ | exact ⟨hR _, by omega⟩ | exact ⟨by omega, hR _⟩ | exact ⟨hR _, hR _⟩) ?_
      refine xg_icge 263 36 dX12_holdsLine_33 rfl rfl (by first | omega | exact hR _ | exact ⟨hR _, by omega⟩ | exact ⟨by omega, hR _⟩ | exact ⟨hR _, hR _⟩) (fun hb33 => ?_) (fun hb33 => ?_)
      · skip
        have hk0 : k = 0 := by omega
        subst hk0
        have hfin : s = fin := by rw [wCode, sEv_nil] at he; exact Option.some.inj he
        subst hfin
        refine xg_iloadn 264 dX12_holdsLine_263 rfl rfl rfl ?_
        refine xg_ifeq 277 267 dX12_holdsLine_264 rfl rfl (by first | omega | exact hR _ | exact ⟨hR _, by omega⟩ | exact ⟨by omega, hR _⟩ | exact ⟨hR _, hR _⟩) (fun hb264 => ?_) (fun hb264 => ?_)
        · skip
          refine xg_iconst 278 dX12_holdsLine_277 rfl ?_
          refine xg_goto 282 dX12_holdsLine_278 rfl ?_
          subst hX
          exact xg_zreturn dX12_holdsLine_282 rfl (by first | exact bI_01 _ | omega) ⟨Nat.le_refl _, Nat.le_refl _⟩ ⟨congrArg (fun v => some (J v)) (by unfold sHolds; rw [l6, show s = [] by cases s with | nil => rfl | cons a r => simp at hs; omega]; rfl), upA I (m + 8) u, xScr.rf.up (by omega) u, rfl⟩
        · obtain ⟨v, rfl⟩ : ∃ v, s = [v] := by
            match s, l7, hs with
            | [], _, hs => simp at hs; omega
            | [v], _, _ => exact ⟨v, rfl⟩
            | _ :: _ :: _, l7, _ => simp at l7
          have hv0 : u 0 = v := hrep.1
          have hvb := xab_bd v
          rw [sAb, sAb] at hab
          refine xg_aloadn 268 dX12_holdsLine_267 rfl rfl rfl ?_
          refine xg_getP 271 kf_RX12_39 dX12_holdsLine_268 rfl (by assumption) (by assumption) ?_
          refine xg_iconst 272 dX12_holdsLine_271 rfl ?_
          refine xg_ialdU 273 dX12_holdsLine_272 rfl ⟨v2, v4⟩ (by first | omega | exact hR _ | exact ⟨hR _, by omega⟩ | exact ⟨by omega, hR _⟩ | exact ⟨hR _, hR _⟩) ?_
          rw [hv0]
          refine xg_iconst 274 dX12_holdsLine_273 rfl ?_
          refine xg_icne 281 277 dX12_holdsLine_274 rfl rfl (by first | omega | exact hR _ | exact ⟨hR _, by omega⟩ | exact ⟨by omega, hR _⟩ | exact ⟨hR _, hR _⟩) (fun hb274 => ?_) (fun hb274 => ?_)
          · skip
            refine xg_iconst 282 dX12_holdsLine_281 rfl ?_
            subst hX
            exact xg_zreturn dX12_holdsLine_282 rfl (by first | exact bI_01 _ | omega) ⟨Nat.le_refl _, Nat.le_refl _⟩ ⟨congrArg (fun v => some (J v)) (by unfold sHolds; rw [l6]; exact (bI_f hb274).symm), upA I (m + 8) u, xScr.rf.up (by omega) u, rfl⟩
          · skip
            refine xg_iconst 278 dX12_holdsLine_277 rfl ?_
            refine xg_goto 282 dX12_holdsLine_278 rfl ?_
            subst hX
            exact xg_zreturn dX12_holdsLine_282 rfl (by first | exact bI_01 _ | omega) ⟨Nat.le_refl _, Nat.le_refl _⟩ ⟨congrArg (fun v => some (J v)) (by unfold sHolds; rw [l6]; exact (bI_t hb274).symm), upA I (m + 8) u, xScr.rf.up (by omega) u, rfl⟩
      · skip
        obtain ⟨k, rfl⟩ : ∃ j, k = j + 1 := ⟨k - 1, by omega⟩
        obtain ⟨hcd, hcd2⟩ := l4 i (by omega) (by omega)
        rw [wCode, sEv_cons] at he
        refine xg_aloadn 37 dX12_holdsLine_36 rfl rfl rfl ?_
        refine xg_getP 40 kf_RX12_13 dX12_holdsLine_37 rfl (by assumption) (by assumption) ?_
        refine xg_sipush 43 dX12_holdsLine_40 rfl (by decide) ?_
        refine xg_iconst 44 dX12_holdsLine_43 rfl ?_
        refine xg_iload 46 dX12_holdsLine_44 rfl rfl ?_
        refine xg_imul 47 dX12_holdsLine_46 rfl ?_
        refine xg_iadd 48 dX12_holdsLine_47 rfl ?_
        refine xg_ialdW 49 dX12_holdsLine_48 rfl (by assumption) (by first | omega | exact hR _ | exact ⟨hR _, by omega⟩ | exact ⟨by omega, hR _⟩ | exact ⟨hR _, hR _⟩) ?_
        skip
        refine xg_istore 51 _ dX12_holdsLine_49 rfl rfl (by decide) (Or.inr rfl) ?_
        refine xg_iload 53 dX12_holdsLine_51 rfl rfl ?_
        refine xg_bipush 55 dX12_holdsLine_53 rfl (by decide) ?_
        refine xg_icgt 92 58 dX12_holdsLine_55 rfl rfl (by first | omega | exact hR _ | exact ⟨hR _, by omega⟩ | exact ⟨by omega, hR _⟩ | exact ⟨hR _, hR _⟩) (fun hb55 => ?_) (fun hb55 => ?_)
        · skip
          refine xg_iload 94 dX12_holdsLine_92 rfl rfl ?_
          refine xg_bipush 96 dX12_holdsLine_94 rfl (by decide) ?_
          refine xg_icne 120 99 dX12_holdsLine_96 rfl rfl (by first | omega | exact hR _ | exact ⟨hR _, by omega⟩ | exact ⟨by omega, hR _⟩ | exact ⟨hR _, hR _⟩) (fun hb96 => ?_) (fun hb96 => ?_)
          · skip
            rw [if_neg (by omega), if_neg hb96] at he
            obtain ⟨b, a, r, rfl⟩ : ∃ b a r, s = b :: a :: r := by
              match s, he with
              | [], he => simp at he
              | [x], he => simp at he
              | b :: a :: r, _ => exact ⟨b, a, r, rfl⟩
            simp only [List.length_cons] at hs hlen he
            have hub : u (t + -1) = b := by have := hrep.1; simp only [List.length_cons] at this; rw [show t + -1 = ((r.length + 1 : Nat) : Int) by omega]; exact this
            have hua : u (t + -1 - 1) = a := by rw [show t + -1 - 1 = (r.length : Int) by omega]; exact hrep.2.1
            have hxa := xab_bd a
            have hxb := xab_bd b
            have hrn := sAb_nn r
            have hab2 := hab
            rw [sAb, sAb] at hab2
            refine xg_iinc 123 _ dX12_holdsLine_120 rfl rfl rfl rfl (by decide) (Or.inr rfl) ?_
            refine xg_aloadn 124 dX12_holdsLine_123 rfl rfl rfl ?_
            refine xg_getP 127 kf_RX12_39 dX12_holdsLine_124 rfl (by assumption) (by assumption) ?_
            refine xg_iloadn 128 dX12_holdsLine_127 rfl rfl rfl ?_
            refine xg_iconst 129 dX12_holdsLine_128 rfl ?_
            refine xg_isub 130 dX12_holdsLine_129 rfl ?_
            refine xg_ialdU 131 dX12_holdsLine_130 rfl ⟨v2, v4⟩ (by first | omega | exact hR _ | exact ⟨hR _, by omega⟩ | exact ⟨by omega, hR _⟩ | exact ⟨hR _, hR _⟩) ?_
            rw [hua]
            refine xg_istore 133 _ dX12_holdsLine_131 rfl rfl (by decide) (Or.inr rfl) ?_
            refine xg_aloadn 134 dX12_holdsLine_133 rfl rfl rfl ?_
            refine xg_getP 137 kf_RX12_39 dX12_holdsLine_134 rfl (by assumption) (by assumption) ?_
            refine xg_iloadn 138 dX12_holdsLine_137 rfl rfl rfl ?_
            refine xg_ialdU 139 dX12_holdsLine_138 rfl ⟨v2, v4⟩ (by first | omega | exact hR _ | exact ⟨hR _, by omega⟩ | exact ⟨by omega, hR _⟩ | exact ⟨hR _, hR _⟩) ?_
            rw [hub]
            refine xg_istore 141 _ dX12_holdsLine_139 rfl rfl (by decide) (Or.inr rfl) ?_
            refine xg_iload 143 dX12_holdsLine_141 rfl rfl ?_
            refine xg_bipush 145 dX12_holdsLine_143 rfl (by decide) ?_
            refine xg_icne 163 148 dX12_holdsLine_145 rfl rfl (by first | omega | exact hR _ | exact ⟨hR _, by omega⟩ | exact ⟨by omega, hR _⟩ | exact ⟨hR _, hR _⟩) (fun hb145 => ?_) (fun hb145 => ?_)
            · skip
              refine xg_iload 165 dX12_holdsLine_163 rfl rfl ?_
              refine xg_bipush 167 dX12_holdsLine_165 rfl (by decide) ?_
              refine xg_icne 185 170 dX12_holdsLine_167 rfl rfl (by first | omega | exact hR _ | exact ⟨hR _, by omega⟩ | exact ⟨by omega, hR _⟩ | exact ⟨hR _, hR _⟩) (fun hb167 => ?_) (fun hb167 => ?_)
              · skip
                refine xg_iload 187 dX12_holdsLine_185 rfl rfl ?_
                refine xg_bipush 189 dX12_holdsLine_187 rfl (by decide) ?_
                refine xg_icne 209 192 dX12_holdsLine_189 rfl rfl (by first | omega | exact hR _ | exact ⟨hR _, by omega⟩ | exact ⟨by omega, hR _⟩ | exact ⟨hR _, hR _⟩) (fun hb189 => ?_) (fun hb189 => ?_)
                · skip
                  refine xg_iload 211 dX12_holdsLine_209 rfl rfl ?_
                  refine xg_iload 213 dX12_holdsLine_211 rfl rfl ?_
                  refine xg_iadd 214 dX12_holdsLine_213 rfl ?_
                  refine xg_ifle 221 217 dX12_holdsLine_214 rfl rfl (by first | omega | exact hR _ | exact ⟨hR _, by omega⟩ | exact ⟨by omega, hR _⟩ | exact ⟨hR _, hR _⟩) (fun hb214 => ?_) (fun hb214 => ?_)
                  · skip
                    refine xg_iconst 222 dX12_holdsLine_221 rfl ?_
                    refine xg_istore 224 _ dX12_holdsLine_222 rfl rfl (by decide) (Or.inr rfl) ?_
                    refine xg_aloadn 225 dX12_holdsLine_224 rfl rfl rfl ?_
                    refine xg_getP 228 kf_RX12_39 dX12_holdsLine_225 rfl (by assumption) (by assumption) ?_
                    refine xg_iloadn 229 dX12_holdsLine_228 rfl rfl rfl ?_
                    refine xg_iconst 230 dX12_holdsLine_229 rfl ?_
                    refine xg_isub 231 dX12_holdsLine_230 rfl ?_
                    refine xg_iload 233 dX12_holdsLine_231 rfl rfl ?_
                    refine xg_bipush 235 dX12_holdsLine_233 rfl (by decide) ?_
                    refine xg_icne 246 238 dX12_holdsLine_235 rfl rfl (by first | omega | exact hR _ | exact ⟨hR _, by omega⟩ | exact ⟨by omega, hR _⟩ | exact ⟨hR _, hR _⟩) (fun hb235 => ?_) (fun hb235 => ?_)
                    · skip
                      refine xg_iload 248 dX12_holdsLine_246 rfl rfl ?_
                      refine xg_ifeq 255 251 dX12_holdsLine_248 rfl rfl (by first | omega | exact hR _ | exact ⟨hR _, by omega⟩ | exact ⟨by omega, hR _⟩ | exact ⟨hR _, hR _⟩) (fun hb248 => ?_) (fun hb248 => ?_)
                      · skip
                        refine xg_iconst 256 dX12_holdsLine_255 rfl ?_
                        refine xg_iastU 257 dX12_holdsLine_256 rfl ⟨v2, v4⟩ (by first | omega | exact hR _ | exact ⟨hR _, by omega⟩ | exact ⟨by omega, hR _⟩ | exact ⟨hR _, hR _⟩) ?_
                        refine xg_iinc 260 _ dX12_holdsLine_257 rfl rfl rfl rfl (by decide) (Or.inr rfl) ?_
                        refine xg_goto 22 dX12_holdsLine_260 rfl ?_
                        exact xg_weak _ (xle_s rfl (xle_s rfl (xle_s rfl (xle_s rfl (xle_s rfl (xle_s rfl (xle_n (xle_n (xle_n (xle_n xle_0)))))))))) (ih k (i + 1) (t + -1) (sOp (w (1952 + 2 * i)) a b :: r) _ (by omega) (by simp only [List.length_cons]; omega) he ⟨by rw [show (r.length : Int) = t + -1 - 1 by omega, wS_at]; exact (sOp_or0 hb145 hb167 hb189 hb235 hb214).symm, sRep_S hrep.2.2 (by omega)⟩ (by simp only [List.length_cons]; omega) (by have := sOp_bd (w (1952 + 2 * i)) a b; rw [sAb, sAb] at hab; rw [sAb]; omega) (by omega))
                      · exfalso; omega
                    · skip
                      refine xg_iload 240 dX12_holdsLine_238 rfl rfl ?_
                      refine xg_iload 242 dX12_holdsLine_240 rfl rfl ?_
                      refine xg_iadd 243 dX12_holdsLine_242 rfl ?_
                      refine xg_goto 256 dX12_holdsLine_243 rfl ?_
                      refine xg_iastU 257 dX12_holdsLine_256 rfl ⟨v2, v4⟩ (by first | omega | exact hR _ | exact ⟨hR _, by omega⟩ | exact ⟨by omega, hR _⟩ | exact ⟨hR _, hR _⟩) ?_
                      refine xg_iinc 260 _ dX12_holdsLine_257 rfl rfl rfl rfl (by decide) (Or.inr rfl) ?_
                      refine xg_goto 22 dX12_holdsLine_260 rfl ?_
                      exact xg_weak _ (xle_s rfl (xle_s rfl (xle_s rfl (xle_s rfl (xle_s rfl (xle_s rfl (xle_n (xle_n (xle_n (xle_n xle_0)))))))))) (ih k (i + 1) (t + -1) (sOp (w (1952 + 2 * i)) a b :: r) _ (by omega) (by simp only [List.length_cons]; omega) he ⟨by rw [show (r.length : Int) = t + -1 - 1 by omega, wS_at]; exact (sOp_add hb235).symm, sRep_S hrep.2.2 (by omega)⟩ (by simp only [List.length_cons]; omega) (by have := sOp_bd (w (1952 + 2 * i)) a b; rw [sAb, sAb] at hab; rw [sAb]; omega) (by omega))
                  · skip
                    refine xg_iconst 218 dX12_holdsLine_217 rfl ?_
                    refine xg_goto 222 dX12_holdsLine_218 rfl ?_
                    refine xg_istore 224 _ dX12_holdsLine_222 rfl rfl (by decide) (Or.inr rfl) ?_
                    refine xg_aloadn 225 dX12_holdsLine_224 rfl rfl rfl ?_
                    refine xg_getP 228 kf_RX12_39 dX12_holdsLine_225 rfl (by assumption) (by assumption) ?_
                    refine xg_iloadn 229 dX12_holdsLine_228 rfl rfl rfl ?_
                    refine xg_iconst 230 dX12_holdsLine_229 rfl ?_
                    refine xg_isub 231 dX12_holdsLine_230 rfl ?_
                    refine xg_iload 233 dX12_holdsLine_231 rfl rfl ?_
                    refine xg_bipush 235 dX12_holdsLine_233 rfl (by decide) ?_
                    refine xg_icne 246 238 dX12_holdsLine_235 rfl rfl (by first | omega | exact hR _ | exact ⟨hR _, by omega⟩ | exact ⟨by omega, hR _⟩ | exact ⟨hR _, hR _⟩) (fun hb235 => ?_) (fun hb235 => ?_)
                    · skip
                      refine xg_iload 248 dX12_holdsLine_246 rfl rfl ?_
                      refine xg_ifeq 255 251 dX12_holdsLine_248 rfl rfl (by first | omega | exact hR _ | exact ⟨hR _, by omega⟩ | exact ⟨by omega, hR _⟩ | exact ⟨hR _, hR _⟩) (fun hb248 => ?_) (fun hb248 => ?_)
                      · exfalso; omega
                      · skip
                        refine xg_iconst 252 dX12_holdsLine_251 rfl ?_
                        refine xg_goto 256 dX12_holdsLine_252 rfl ?_
                        refine xg_iastU 257 dX12_holdsLine_256 rfl ⟨v2, v4⟩ (by first | omega | exact hR _ | exact ⟨hR _, by omega⟩ | exact ⟨by omega, hR _⟩ | exact ⟨hR _, hR _⟩) ?_
                        refine xg_iinc 260 _ dX12_holdsLine_257 rfl rfl rfl rfl (by decide) (Or.inr rfl) ?_
                        refine xg_goto 22 dX12_holdsLine_260 rfl ?_
                        exact xg_weak _ (xle_s rfl (xle_s rfl (xle_s rfl (xle_s rfl (xle_s rfl (xle_s rfl (xle_n (xle_n (xle_n (xle_n xle_0)))))))))) (ih k (i + 1) (t + -1) (sOp (w (1952 + 2 * i)) a b :: r) _ (by omega) (by simp only [List.length_cons]; omega) he ⟨by rw [show (r.length : Int) = t + -1 - 1 by omega, wS_at]; exact (sOp_or1 hb145 hb167 hb189 hb235 hb214).symm, sRep_S hrep.2.2 (by omega)⟩ (by simp only [List.length_cons]; omega) (by have := sOp_bd (w (1952 + 2 * i)) a b; rw [sAb, sAb] at hab; rw [sAb]; omega) (by omega))
                    · skip
                      refine xg_iload 240 dX12_holdsLine_238 rfl rfl ?_
                      refine xg_iload 242 dX12_holdsLine_240 rfl rfl ?_
                      refine xg_iadd 243 dX12_holdsLine_242 rfl ?_
                      refine xg_goto 256 dX12_holdsLine_243 rfl ?_
                      refine xg_iastU 257 dX12_holdsLine_256 rfl ⟨v2, v4⟩ (by first | omega | exact hR _ | exact ⟨hR _, by omega⟩ | exact ⟨by omega, hR _⟩ | exact ⟨hR _, hR _⟩) ?_
                      refine xg_iinc 260 _ dX12_holdsLine_257 rfl rfl rfl rfl (by decide) (Or.inr rfl) ?_
                      refine xg_goto 22 dX12_holdsLine_260 rfl ?_
                      exact xg_weak _ (xle_s rfl (xle_s rfl (xle_s rfl (xle_s rfl (xle_s rfl (xle_s rfl (xle_n (xle_n (xle_n (xle_n xle_0)))))))))) (ih k (i + 1) (t + -1) (sOp (w (1952 + 2 * i)) a b :: r) _ (by omega) (by simp only [List.length_cons]; omega) he ⟨by rw [show (r.length : Int) = t + -1 - 1 by omega, wS_at]; exact (sOp_add hb235).symm, sRep_S hrep.2.2 (by omega)⟩ (by simp only [List.length_cons]; omega) (by have := sOp_bd (w (1952 + 2 * i)) a b; rw [sAb, sAb] at hab; rw [sAb]; omega) (by omega))
                · skip
                  refine xg_iload 194 dX12_holdsLine_192 rfl rfl ?_
                  refine xg_iload 196 dX12_holdsLine_194 rfl rfl ?_
                  refine xg_iadd 197 dX12_holdsLine_196 rfl ?_
                  refine xg_iconst 198 dX12_holdsLine_197 rfl ?_
                  refine xg_icne 205 201 dX12_holdsLine_198 rfl rfl (by first | omega | exact hR _ | exact ⟨hR _, by omega⟩ | exact ⟨by omega, hR _⟩ | exact ⟨hR _, hR _⟩) (fun hb198 => ?_) (fun hb198 => ?_)
                  · skip
                    refine xg_iconst 206 dX12_holdsLine_205 rfl ?_
                    refine xg_goto 222 dX12_holdsLine_206 rfl ?_
                    refine xg_istore 224 _ dX12_holdsLine_222 rfl rfl (by decide) (Or.inr rfl) ?_
                    refine xg_aloadn 225 dX12_holdsLine_224 rfl rfl rfl ?_
                    refine xg_getP 228 kf_RX12_39 dX12_holdsLine_225 rfl (by assumption) (by assumption) ?_
                    refine xg_iloadn 229 dX12_holdsLine_228 rfl rfl rfl ?_
                    refine xg_iconst 230 dX12_holdsLine_229 rfl ?_
                    refine xg_isub 231 dX12_holdsLine_230 rfl ?_
                    refine xg_iload 233 dX12_holdsLine_231 rfl rfl ?_
                    refine xg_bipush 235 dX12_holdsLine_233 rfl (by decide) ?_
                    refine xg_icne 246 238 dX12_holdsLine_235 rfl rfl (by first | omega | exact hR _ | exact ⟨hR _, by omega⟩ | exact ⟨by omega, hR _⟩ | exact ⟨hR _, hR _⟩) (fun hb235 => ?_) (fun hb235 => ?_)
                    · skip
                      refine xg_iload 248 dX12_holdsLine_246 rfl rfl ?_
                      refine xg_ifeq 255 251 dX12_holdsLine_248 rfl rfl (by first | omega | exact hR _ | exact ⟨hR _, by omega⟩ | exact ⟨by omega, hR _⟩ | exact ⟨hR _, hR _⟩) (fun hb248 => ?_) (fun hb248 => ?_)
                      · skip
                        refine xg_iconst 256 dX12_holdsLine_255 rfl ?_
                        refine xg_iastU 257 dX12_holdsLine_256 rfl ⟨v2, v4⟩ (by first | omega | exact hR _ | exact ⟨hR _, by omega⟩ | exact ⟨by omega, hR _⟩ | exact ⟨hR _, hR _⟩) ?_
                        refine xg_iinc 260 _ dX12_holdsLine_257 rfl rfl rfl rfl (by decide) (Or.inr rfl) ?_
                        refine xg_goto 22 dX12_holdsLine_260 rfl ?_
                        exact xg_weak _ (xle_s rfl (xle_s rfl (xle_s rfl (xle_s rfl (xle_s rfl (xle_s rfl (xle_n (xle_n (xle_n (xle_n xle_0)))))))))) (ih k (i + 1) (t + -1) (sOp (w (1952 + 2 * i)) a b :: r) _ (by omega) (by simp only [List.length_cons]; omega) he ⟨by rw [show (r.length : Int) = t + -1 - 1 by omega, wS_at]; exact (sOp_and0 hb189 hb198).symm, sRep_S hrep.2.2 (by omega)⟩ (by simp only [List.length_cons]; omega) (by have := sOp_bd (w (1952 + 2 * i)) a b; rw [sAb, sAb] at hab; rw [sAb]; omega) (by omega))
                      · exfalso; omega
                    · exfalso; omega
                  · skip
                    refine xg_iconst 202 dX12_holdsLine_201 rfl ?_
                    refine xg_goto 222 dX12_holdsLine_202 rfl ?_
                    refine xg_istore 224 _ dX12_holdsLine_222 rfl rfl (by decide) (Or.inr rfl) ?_
                    refine xg_aloadn 225 dX12_holdsLine_224 rfl rfl rfl ?_
                    refine xg_getP 228 kf_RX12_39 dX12_holdsLine_225 rfl (by assumption) (by assumption) ?_
                    refine xg_iloadn 229 dX12_holdsLine_228 rfl rfl rfl ?_
                    refine xg_iconst 230 dX12_holdsLine_229 rfl ?_
                    refine xg_isub 231 dX12_holdsLine_230 rfl ?_
                    refine xg_iload 233 dX12_holdsLine_231 rfl rfl ?_
                    refine xg_bipush 235 dX12_holdsLine_233 rfl (by decide) ?_
                    refine xg_icne 246 238 dX12_holdsLine_235 rfl rfl (by first | omega | exact hR _ | exact ⟨hR _, by omega⟩ | exact ⟨by omega, hR _⟩ | exact ⟨hR _, hR _⟩) (fun hb235 => ?_) (fun hb235 => ?_)
                    · skip
                      refine xg_iload 248 dX12_holdsLine_246 rfl rfl ?_
                      refine xg_ifeq 255 251 dX12_holdsLine_248 rfl rfl (by first | omega | exact hR _ | exact ⟨hR _, by omega⟩ | exact ⟨by omega, hR _⟩ | exact ⟨hR _, hR _⟩) (fun hb248 => ?_) (fun hb248 => ?_)
                      · exfalso; omega
                      · skip
                        refine xg_iconst 252 dX12_holdsLine_251 rfl ?_
                        refine xg_goto 256 dX12_holdsLine_252 rfl ?_
                        refine xg_iastU 257 dX12_holdsLine_256 rfl ⟨v2, v4⟩ (by first | omega | exact hR _ | exact ⟨hR _, by omega⟩ | exact ⟨by omega, hR _⟩ | exact ⟨hR _, hR _⟩) ?_
                        refine xg_iinc 260 _ dX12_holdsLine_257 rfl rfl rfl rfl (by decide) (Or.inr rfl) ?_
                        refine xg_goto 22 dX12_holdsLine_260 rfl ?_
                        exact xg_weak _ (xle_s rfl (xle_s rfl (xle_s rfl (xle_s rfl (xle_s rfl (xle_s rfl (xle_n (xle_n (xle_n (xle_n xle_0)))))))))) (ih k (i + 1) (t + -1) (sOp (w (1952 + 2 * i)) a b :: r) _ (by omega) (by simp only [List.length_cons]; omega) he ⟨by rw [show (r.length : Int) = t + -1 - 1 by omega, wS_at]; exact (sOp_and1 hb189 hb198).symm, sRep_S hrep.2.2 (by omega)⟩ (by simp only [List.length_cons]; omega) (by have := sOp_bd (w (1952 + 2 * i)) a b; rw [sAb, sAb] at hab; rw [sAb]; omega) (by omega))
                    · exfalso; omega
              · skip
                refine xg_iload 172 dX12_holdsLine_170 rfl rfl ?_
                refine xg_iload 174 dX12_holdsLine_172 rfl rfl ?_
                refine xg_icle 181 177 dX12_holdsLine_174 rfl rfl (by first | omega | exact hR _ | exact ⟨hR _, by omega⟩ | exact ⟨by omega, hR _⟩ | exact ⟨hR _, hR _⟩) (fun hb174 => ?_) (fun hb174 => ?_)
                · skip
                  refine xg_iconst 182 dX12_holdsLine_181 rfl ?_
                  refine xg_goto 222 dX12_holdsLine_182 rfl ?_
                  refine xg_istore 224 _ dX12_holdsLine_222 rfl rfl (by decide) (Or.inr rfl) ?_
                  refine xg_aloadn 225 dX12_holdsLine_224 rfl rfl rfl ?_
                  refine xg_getP 228 kf_RX12_39 dX12_holdsLine_225 rfl (by assumption) (by assumption) ?_
                  refine xg_iloadn 229 dX12_holdsLine_228 rfl rfl rfl ?_
                  refine xg_iconst 230 dX12_holdsLine_229 rfl ?_
                  refine xg_isub 231 dX12_holdsLine_230 rfl ?_
                  refine xg_iload 233 dX12_holdsLine_231 rfl rfl ?_
                  refine xg_bipush 235 dX12_holdsLine_233 rfl (by decide) ?_
                  refine xg_icne 246 238 dX12_holdsLine_235 rfl rfl (by first | omega | exact hR _ | exact ⟨hR _, by omega⟩ | exact ⟨by omega, hR _⟩ | exact ⟨hR _, hR _⟩) (fun hb235 => ?_) (fun hb235 => ?_)
                  · skip
                    refine xg_iload 248 dX12_holdsLine_246 rfl rfl ?_
                    refine xg_ifeq 255 251 dX12_holdsLine_248 rfl rfl (by first | omega | exact hR _ | exact ⟨hR _, by omega⟩ | exact ⟨by omega, hR _⟩ | exact ⟨hR _, hR _⟩) (fun hb248 => ?_) (fun hb248 => ?_)
                    · skip
                      refine xg_iconst 256 dX12_holdsLine_255 rfl ?_
                      refine xg_iastU 257 dX12_holdsLine_256 rfl ⟨v2, v4⟩ (by first | omega | exact hR _ | exact ⟨hR _, by omega⟩ | exact ⟨by omega, hR _⟩ | exact ⟨hR _, hR _⟩) ?_
                      refine xg_iinc 260 _ dX12_holdsLine_257 rfl rfl rfl rfl (by decide) (Or.inr rfl) ?_
                      refine xg_goto 22 dX12_holdsLine_260 rfl ?_
                      exact xg_weak _ (xle_s rfl (xle_s rfl (xle_s rfl (xle_s rfl (xle_s rfl (xle_s rfl (xle_n (xle_n (xle_n (xle_n xle_0)))))))))) (ih k (i + 1) (t + -1) (sOp (w (1952 + 2 * i)) a b :: r) _ (by omega) (by simp only [List.length_cons]; omega) he ⟨by rw [show (r.length : Int) = t + -1 - 1 by omega, wS_at]; exact (sOp_gt0 hb167 hb174).symm, sRep_S hrep.2.2 (by omega)⟩ (by simp only [List.length_cons]; omega) (by have := sOp_bd (w (1952 + 2 * i)) a b; rw [sAb, sAb] at hab; rw [sAb]; omega) (by omega))
                    · exfalso; omega
                  · exfalso; omega
                · skip
                  refine xg_iconst 178 dX12_holdsLine_177 rfl ?_
                  refine xg_goto 222 dX12_holdsLine_178 rfl ?_
                  refine xg_istore 224 _ dX12_holdsLine_222 rfl rfl (by decide) (Or.inr rfl) ?_
                  refine xg_aloadn 225 dX12_holdsLine_224 rfl rfl rfl ?_
                  refine xg_getP 228 kf_RX12_39 dX12_holdsLine_225 rfl (by assumption) (by assumption) ?_
                  refine xg_iloadn 229 dX12_holdsLine_228 rfl rfl rfl ?_
                  refine xg_iconst 230 dX12_holdsLine_229 rfl ?_
                  refine xg_isub 231 dX12_holdsLine_230 rfl ?_
                  refine xg_iload 233 dX12_holdsLine_231 rfl rfl ?_
                  refine xg_bipush 235 dX12_holdsLine_233 rfl (by decide) ?_
                  refine xg_icne 246 238 dX12_holdsLine_235 rfl rfl (by first | omega | exact hR _ | exact ⟨hR _, by omega⟩ | exact ⟨by omega, hR _⟩ | exact ⟨hR _, hR _⟩) (fun hb235 => ?_) (fun hb235 => ?_)
                  · skip
                    refine xg_iload 248 dX12_holdsLine_246 rfl rfl ?_
                    refine xg_ifeq 255 251 dX12_holdsLine_248 rfl rfl (by first | omega | exact hR _ | exact ⟨hR _, by omega⟩ | exact ⟨by omega, hR _⟩ | exact ⟨hR _, hR _⟩) (fun hb248 => ?_) (fun hb248 => ?_)
                    · exfalso; omega
                    · skip
                      refine xg_iconst 252 dX12_holdsLine_251 rfl ?_
                      refine xg_goto 256 dX12_holdsLine_252 rfl ?_
                      refine xg_iastU 257 dX12_holdsLine_256 rfl ⟨v2, v4⟩ (by first | omega | exact hR _ | exact ⟨hR _, by omega⟩ | exact ⟨by omega, hR _⟩ | exact ⟨hR _, hR _⟩) ?_
                      refine xg_iinc 260 _ dX12_holdsLine_257 rfl rfl rfl rfl (by decide) (Or.inr rfl) ?_
                      refine xg_goto 22 dX12_holdsLine_260 rfl ?_
                      exact xg_weak _ (xle_s rfl (xle_s rfl (xle_s rfl (xle_s rfl (xle_s rfl (xle_s rfl (xle_n (xle_n (xle_n (xle_n xle_0)))))))))) (ih k (i + 1) (t + -1) (sOp (w (1952 + 2 * i)) a b :: r) _ (by omega) (by simp only [List.length_cons]; omega) he ⟨by rw [show (r.length : Int) = t + -1 - 1 by omega, wS_at]; exact (sOp_gt1 hb167 hb174).symm, sRep_S hrep.2.2 (by omega)⟩ (by simp only [List.length_cons]; omega) (by have := sOp_bd (w (1952 + 2 * i)) a b; rw [sAb, sAb] at hab; rw [sAb]; omega) (by omega))
                  · exfalso; omega
            · skip
              refine xg_iload 150 dX12_holdsLine_148 rfl rfl ?_
              refine xg_iload 152 dX12_holdsLine_150 rfl rfl ?_
              refine xg_icge 159 155 dX12_holdsLine_152 rfl rfl (by first | omega | exact hR _ | exact ⟨hR _, by omega⟩ | exact ⟨by omega, hR _⟩ | exact ⟨hR _, hR _⟩) (fun hb152 => ?_) (fun hb152 => ?_)
              · skip
                refine xg_iconst 160 dX12_holdsLine_159 rfl ?_
                refine xg_goto 222 dX12_holdsLine_160 rfl ?_
                refine xg_istore 224 _ dX12_holdsLine_222 rfl rfl (by decide) (Or.inr rfl) ?_
                refine xg_aloadn 225 dX12_holdsLine_224 rfl rfl rfl ?_
                refine xg_getP 228 kf_RX12_39 dX12_holdsLine_225 rfl (by assumption) (by assumption) ?_
                refine xg_iloadn 229 dX12_holdsLine_228 rfl rfl rfl ?_
                refine xg_iconst 230 dX12_holdsLine_229 rfl ?_
                refine xg_isub 231 dX12_holdsLine_230 rfl ?_
                refine xg_iload 233 dX12_holdsLine_231 rfl rfl ?_
                refine xg_bipush 235 dX12_holdsLine_233 rfl (by decide) ?_
                refine xg_icne 246 238 dX12_holdsLine_235 rfl rfl (by first | omega | exact hR _ | exact ⟨hR _, by omega⟩ | exact ⟨by omega, hR _⟩ | exact ⟨hR _, hR _⟩) (fun hb235 => ?_) (fun hb235 => ?_)
                · skip
                  refine xg_iload 248 dX12_holdsLine_246 rfl rfl ?_
                  refine xg_ifeq 255 251 dX12_holdsLine_248 rfl rfl (by first | omega | exact hR _ | exact ⟨hR _, by omega⟩ | exact ⟨by omega, hR _⟩ | exact ⟨hR _, hR _⟩) (fun hb248 => ?_) (fun hb248 => ?_)
                  · skip
                    refine xg_iconst 256 dX12_holdsLine_255 rfl ?_
                    refine xg_iastU 257 dX12_holdsLine_256 rfl ⟨v2, v4⟩ (by first | omega | exact hR _ | exact ⟨hR _, by omega⟩ | exact ⟨by omega, hR _⟩ | exact ⟨hR _, hR _⟩) ?_
                    refine xg_iinc 260 _ dX12_holdsLine_257 rfl rfl rfl rfl (by decide) (Or.inr rfl) ?_
                    refine xg_goto 22 dX12_holdsLine_260 rfl ?_
                    exact xg_weak _ (xle_s rfl (xle_s rfl (xle_s rfl (xle_s rfl (xle_s rfl (xle_s rfl (xle_n (xle_n (xle_n (xle_n xle_0)))))))))) (ih k (i + 1) (t + -1) (sOp (w (1952 + 2 * i)) a b :: r) _ (by omega) (by simp only [List.length_cons]; omega) he ⟨by rw [show (r.length : Int) = t + -1 - 1 by omega, wS_at]; exact (sOp_lt0 hb145 hb152).symm, sRep_S hrep.2.2 (by omega)⟩ (by simp only [List.length_cons]; omega) (by have := sOp_bd (w (1952 + 2 * i)) a b; rw [sAb, sAb] at hab; rw [sAb]; omega) (by omega))
                  · exfalso; omega
                · exfalso; omega
              · skip
                refine xg_iconst 156 dX12_holdsLine_155 rfl ?_
                refine xg_goto 222 dX12_holdsLine_156 rfl ?_
                refine xg_istore 224 _ dX12_holdsLine_222 rfl rfl (by decide) (Or.inr rfl) ?_
                refine xg_aloadn 225 dX12_holdsLine_224 rfl rfl rfl ?_
                refine xg_getP 228 kf_RX12_39 dX12_holdsLine_225 rfl (by assumption) (by assumption) ?_
                refine xg_iloadn 229 dX12_holdsLine_228 rfl rfl rfl ?_
                refine xg_iconst 230 dX12_holdsLine_229 rfl ?_
                refine xg_isub 231 dX12_holdsLine_230 rfl ?_
                refine xg_iload 233 dX12_holdsLine_231 rfl rfl ?_
                refine xg_bipush 235 dX12_holdsLine_233 rfl (by decide) ?_
                refine xg_icne 246 238 dX12_holdsLine_235 rfl rfl (by first | omega | exact hR _ | exact ⟨hR _, by omega⟩ | exact ⟨by omega, hR _⟩ | exact ⟨hR _, hR _⟩) (fun hb235 => ?_) (fun hb235 => ?_)
                · skip
                  refine xg_iload 248 dX12_holdsLine_246 rfl rfl ?_
                  refine xg_ifeq 255 251 dX12_holdsLine_248 rfl rfl (by first | omega | exact hR _ | exact ⟨hR _, by omega⟩ | exact ⟨by omega, hR _⟩ | exact ⟨hR _, hR _⟩) (fun hb248 => ?_) (fun hb248 => ?_)
                  · exfalso; omega
                  · skip
                    refine xg_iconst 252 dX12_holdsLine_251 rfl ?_
                    refine xg_goto 256 dX12_holdsLine_252 rfl ?_
                    refine xg_iastU 257 dX12_holdsLine_256 rfl ⟨v2, v4⟩ (by first | omega | exact hR _ | exact ⟨hR _, by omega⟩ | exact ⟨by omega, hR _⟩ | exact ⟨hR _, hR _⟩) ?_
                    refine xg_iinc 260 _ dX12_holdsLine_257 rfl rfl rfl rfl (by decide) (Or.inr rfl) ?_
                    refine xg_goto 22 dX12_holdsLine_260 rfl ?_
                    exact xg_weak _ (xle_s rfl (xle_s rfl (xle_s rfl (xle_s rfl (xle_s rfl (xle_s rfl (xle_n (xle_n (xle_n (xle_n xle_0)))))))))) (ih k (i + 1) (t + -1) (sOp (w (1952 + 2 * i)) a b :: r) _ (by omega) (by simp only [List.length_cons]; omega) he ⟨by rw [show (r.length : Int) = t + -1 - 1 by omega, wS_at]; exact (sOp_lt1 hb145 hb152).symm, sRep_S hrep.2.2 (by omega)⟩ (by simp only [List.length_cons]; omega) (by have := sOp_bd (w (1952 + 2 * i)) a b; rw [sAb, sAb] at hab; rw [sAb]; omega) (by omega))
                · exfalso; omega
          · skip
            rw [if_neg (by omega), if_pos hb96] at he
            obtain ⟨x, r, rfl⟩ : ∃ x r, s = x :: r := by
              cases s with
              | nil => simp at he
              | cons x r => exact ⟨x, r, rfl⟩
            simp only [List.length_cons] at hs hlen he
            have hux : u (t - 1) = x := by rw [show t - 1 = (r.length : Int) by omega]; exact hrep.1
            have hxb := xab_bd x
            have hrn := sAb_nn r
            rw [sAb] at hnn
            have hab2 := hab
            rw [sAb] at hab2
            refine xg_aloadn 100 dX12_holdsLine_99 rfl rfl rfl ?_
            refine xg_getP 103 kf_RX12_39 dX12_holdsLine_100 rfl (by assumption) (by assumption) ?_
            refine xg_iloadn 104 dX12_holdsLine_103 rfl rfl rfl ?_
            refine xg_iconst 105 dX12_holdsLine_104 rfl ?_
            refine xg_isub 106 dX12_holdsLine_105 rfl ?_
            refine xg_iconst 107 dX12_holdsLine_106 rfl ?_
            refine xg_aloadn 108 dX12_holdsLine_107 rfl rfl rfl ?_
            refine xg_getP 111 kf_RX12_39 dX12_holdsLine_108 rfl (by assumption) (by assumption) ?_
            refine xg_iloadn 112 dX12_holdsLine_111 rfl rfl rfl ?_
            refine xg_iconst 113 dX12_holdsLine_112 rfl ?_
            refine xg_isub 114 dX12_holdsLine_113 rfl ?_
            refine xg_ialdU 115 dX12_holdsLine_114 rfl ⟨v2, v4⟩ (by first | omega | exact hR _ | exact ⟨hR _, by omega⟩ | exact ⟨by omega, hR _⟩ | exact ⟨hR _, hR _⟩) ?_
            rw [hux]
            refine xg_isub 116 dX12_holdsLine_115 rfl ?_
            refine xg_iastU 117 dX12_holdsLine_116 rfl ⟨v2, v4⟩ (by first | omega | exact hR _ | exact ⟨hR _, by omega⟩ | exact ⟨by omega, hR _⟩ | exact ⟨hR _, hR _⟩) ?_
            refine xg_goto 257 dX12_holdsLine_117 rfl ?_
            refine xg_iinc 260 _ dX12_holdsLine_257 rfl rfl rfl rfl (by decide) (Or.inr rfl) ?_
            refine xg_goto 22 dX12_holdsLine_260 rfl ?_
            exact xg_weak _ (xle_s rfl (xle_s rfl (xle_s rfl (xle_s rfl (xle_s rfl (xle_s rfl (xle_n (xle_n (xle_n (xle_n xle_0)))))))))) (ih k (i + 1) t ((1 - x) :: r) _ (by omega) (by simp only [List.length_cons]; omega) he ⟨by rw [show t - 1 = (r.length : Int) by omega]; exact wS_at _ _ _, sRep_S hrep.2 (by omega)⟩ (by simp only [List.length_cons]; omega) (by have := xab_not x; rw [sAb] at hab ⊢; omega) (by omega))
        · skip
          refine xg_aloadn 59 dX12_holdsLine_58 rfl rfl rfl ?_
          refine xg_getP 62 kf_RX12_39 dX12_holdsLine_59 rfl (by assumption) (by assumption) ?_
          refine xg_iloadn 63 dX12_holdsLine_62 rfl rfl rfl ?_
          refine xg_aloadn 64 dX12_holdsLine_63 rfl rfl rfl ?_
          refine xg_iload 66 dX12_holdsLine_64 rfl rfl ?_
          refine xg_aloadn 67 dX12_holdsLine_66 rfl rfl rfl ?_
          refine xg_getP 70 kf_RX12_13 dX12_holdsLine_67 rfl (by assumption) (by assumption) ?_
          refine xg_sipush 73 dX12_holdsLine_70 rfl (by decide) ?_
          refine xg_iconst 74 dX12_holdsLine_73 rfl ?_
          refine xg_iload 76 dX12_holdsLine_74 rfl rfl ?_
          refine xg_imul 77 dX12_holdsLine_76 rfl ?_
          refine xg_iadd 78 dX12_holdsLine_77 rfl ?_
          refine xg_iconst 79 dX12_holdsLine_78 rfl ?_
          refine xg_iadd 80 dX12_holdsLine_79 rfl ?_
          refine xg_ialdW 81 dX12_holdsLine_80 rfl (by assumption) (by first | omega | exact hR _ | exact ⟨hR _, by omega⟩ | exact ⟨by omega, hR _⟩ | exact ⟨hR _, hR _⟩) ?_
          refine xg_iloadn 82 dX12_holdsLine_81 rfl rfl rfl ?_
          refine xg_callV 85 12 [_, _, _] _ kv_X12_factOf ⟨_, _, rfl⟩ kl_RX12_271 dX12_holdsLine_82 rfl (by assumption) (by omega) rfl rfl (Nat.le_of_ble_eq_true rfl) (by omega) ⟨Nat.le_refl _, Nat.le_refl _⟩ (ct_X12_factOf hw hO hl (by omega)) rfl ?_
          refine xg_iastU 86 dX12_holdsLine_85 rfl ⟨v2, v4⟩ (by omega) ?_
          refine xg_iinc 89 _ dX12_holdsLine_86 rfl rfl rfl rfl (by decide) (Or.inr rfl) ?_
          refine xg_goto 257 dX12_holdsLine_89 rfl ?_
          refine xg_iinc 260 _ dX12_holdsLine_257 rfl rfl rfl rfl (by decide) (Or.inr rfl) ?_
          refine xg_goto 22 dX12_holdsLine_260 rfl ?_
          have hfb := sFact_bd hO (level := level) (code := w (1952 + 2 * i)) hl hcd2
          have hxf : xab (sFact w level (w (1952 + 2 * i)) (w (1952 + 2 * i + 1))) = sFact w level (w (1952 + 2 * i)) (w (1952 + 2 * i + 1)) := by unfold xab; rw [if_neg (by omega)]
          exact xg_weak _ (xle_s rfl (xle_s rfl (xle_s rfl (xle_s rfl (xle_s rfl (xle_s rfl (xle_n (xle_n (xle_n (xle_n xle_0)))))))))) (ih k (i + 1) (t + 1) (sFact w level (w (1952 + 2 * i)) (w (1952 + 2 * i + 1)) :: s) _ (by omega) (by simp only [List.length_cons]; omega) (by rw [if_pos hb55] at he; exact he) ⟨by rw [← hs]; exact wS_at _ _ _, sRep_S hrep (by omega)⟩ (by simp only [List.length_cons]; omega) (by rw [sAb]; omega) (by omega))
  have hid : upA I (m + 8) (I (m + 8)) = I := upA_id I (m + 8)
  have l0 := loop22 401 (wTo w n - wFrom w n).toNat (wFrom w n) 0 [] (I (m + 8)) (by omega) rfl l6 trivial (by simp only [List.length_nil]; omega) (by show (0 : Int) ≤ _; omega) (by omega)
  rw [hid] at l0
  exact xg_weak _ (xle_s rfl (xle_s rfl (xle_s rfl (xle_s rfl (xle_s rfl (xle_s rfl (xle_n (xle_n (xle_n (xle_n xle_0)))))))))) l0

