/-! ===== what each call answers, and what is held then ===== -/
def tS (S : GS) (x : Int32) : Thg := S.1.2.2.1 (cN x)
def f_letters (S : GS) (v : Int32) : Int32 × GS := if inR v 2 5 then (nI S.1.1, if v = nI S.1.1 then S else ((cN v, S.1.2.1, (fun _ => (0, [], [])), S.1.2.2.2), S.2)) else (-1, S)
def f_word (S : GS) (x D : Int32) : Int32 × GS := if inB x 6 && (decide (0 ≤ D) && wordOk (cN D) S.1.1) then (nI (ndF 10 (cN D)), putT S (cN x) (1, digL (cN D) (ndF 10 (cN D)), [])) else (-1, S)
def byF (m k : Nat) : List Nat := (List.range k).map (fun j => m / 2 ^ (8 * j) % 256)
def f_feed (S : GS) (e : Int64) (k : Int32) : Int32 × GS := if inR k 1 8 then (if 60 < S.2.2.1.length + cN k then (-2, S) else (nI (S.2.2.1.length + cN k), setTp S (S.2.2.1 ++ byF e.toBitVec.toNat (cN k)))) else (-1, S)
def tbR (S : GS) : Bool × Nat × List (List Nat) := tabF S.2.2.1 S.1.1 60 0 0 []
def f_tableau (S : GS) (x : Int32) : Int32 × GS := if inB x 6 then (if (tbR S).1 then (nI (rdL (tbR S).2.2).length, setTp (putT S (cN x) (2, rdL (tbR S).2.2, (tbR S).2.2.map List.length)) []) else (-100 - nI (tbR S).2.1, setTp S [])) else (-1, S)
def f_bare (S : GS) (x : Int32) : Int32 × GS := if inB x 6 then ((if (tS S x).1 = 0 then nI 0 else nI 1), putT S (cN x) (0, [], [])) else (-1, S)
def g_of (S : GS) (x y : Int32) : Int32 := if inB x 6 && inR y 0 4 then (if (tS S x).1 = 0 then -11 else if y = nI 0 then (if (tS S x).1 = 2 then nI 1 else nI 0) else if y = nI 1 then nI (tS S x).2.1.length else if y = nI 2 then nI (numF (tS S x).2.1 0 (tS S x).2.1.length) else if y = nI 3 then nI (conF (tS S x).2.1 S.1.1) else nI (tS S x).2.2.length) else -1
def g_row (S : GS) (x r : Int32) : Int32 := if inB x 6 then (if (tS S x).1 = 0 then -11 else if (tS S x).1 ≠ 2 then -13 else if inB r (tS S x).2.2.length then nI (numF (tS S x).2.1 (startF (tS S x).2.2 (cN r) ((tS S x).2.2.length - cN r - 1)) ((tS S x).2.2.getD (cN r) 0)) else -12) else -1
def g_taken (S : GS) (x y : Int32) : Int32 := if inB x 6 && inR y 0 1 then (if (tS S x).1 = 0 then -11 else if (tS S x).1 = cN y + 1 then nI (tS S x).2.1.length else -13) else -1
def g_signs (S : GS) (x i y : Int32) : Int32 := if inB x 6 && (inS i S.1.1 && inR y 0 1) then (if (tS S x).1 = 0 then -11 else if y = nI 0 then nI (lowC (tS S x).2.1 (cN i)) else nI (highC (tS S x).2.1 (cN i))) else -1
def iA (a i : Int32) : Nat := if a = nI 5 then 0 else cN i
def f_act (S : GS) (x a i y : Int32) : Int32 × GS := if inB x 6 && (inB y 6 && (inR a 0 5 && (decide (a = nI 5) || inS i S.1.1))) then (if (tS S x).1 = 0 then (-11, S) else if pfB (cN a) (tS S x).1 (tS S x).2.1 (tS S x).2.2 (iA a i) S.1.1 = false ∧ (a = nI 0 ∨ a = nI 1) then (-3, S) else (gBo (pfB (cN a) (tS S x).1 (tS S x).2.1 (tS S x).2.2 (iA a i) S.1.1), putT S (cN y) ((tS S x).1, (pfW (cN a) (tS S x).1 (tS S x).2.1 (tS S x).2.2 (iA a i) S.1.1).1, (pfW (cN a) (tS S x).1 (tS S x).2.1 (tS S x).2.2 (iA a i) S.1.1).2))) else (-1, S)
/-- acts read one behind the other: whether all are; where; which -/
def rdA (B : List Nat) (n : Nat) : Nat → Nat → Bool × Nat × List (Nat × Nat)
  | 0, a => (true, a, [])
  | f + 1, a => if skp B a < B.length then (if (raF B n (skp B a)).1 then ((rdA B n f (raF B n (skp B a)).2.2.2).1, (rdA B n f (raF B n (skp B a)).2.2.2).2.1, ((raF B n (skp B a)).2.1, (raF B n (skp B a)).2.2.1) :: (rdA B n f (raF B n (skp B a)).2.2.2).2.2) else (false, (raF B n (skp B a)).2.2.2, [])) else (true, skp B a, [])
/-- acts performed: how many changed it, what it is -/
def doA (n kd : Nat) : List (Nat × Nat) → List Nat → List Nat → Nat → Nat × List Nat × List Nat
  | [], w, L, c => (c, w, L)
  | q :: l, w, L, c => doA n kd l (pfW q.1 kd w L q.2 n).1 (pfW q.1 kd w L q.2 n).2 (if pfB q.1 kd w L q.2 n then c + 1 else c)
def acR (S : GS) : Bool × Nat × List (Nat × Nat) := rdA S.2.2.1 S.1.1 60 0
def acD (S : GS) (x : Int32) : Nat × List Nat × List Nat := doA S.1.1 (tS S x).1 (acR S).2.2 (tS S x).2.1 (tS S x).2.2 0
def f_acts (S : GS) (x : Int32) : Int32 × GS := if inB x 6 then (if (tS S x).1 = 0 then (-11, S) else if (acR S).1 then (nI (acD S x).1, setTp (putT S (cN x) ((tS S x).1, (acD S x).2.1, (acD S x).2.2)) []) else (-100 - nI (acR S).2.1, setTp S [])) else (-1, S)
def g_highest (S : GS) (x y : Int32) : Int32 := if inB x 6 && inR y 0 2 then (if (tS S x).1 = 0 then -11 else if y = nI 0 then nI (toTop S.1.1 30 (tS S x).2.1).1 else if y = nI 1 then nI (numF (toTop S.1.1 30 (tS S x).2.1).2 0 (tS S x).2.1.length) else nI (conF (toTop S.1.1 30 (tS S x).2.1).2 S.1.1)) else -1
def nthF (M : Nat → Bool) (p : Nat) : Nat := ((List.range 15680).find? (fun c => M c && decide (cF M c = p))).getD 0
def g_all (S : GS) (x i : Int32) : Int32 := if inB x 6 && decide (-1 ≤ i) then (if (tS S x).1 = 0 then -11 else if i = -1 then nI (cF (famB S.1.1 (tS S x).2.1) 15680) else if i < nI (cF (famB S.1.1 (tS S x).2.1) 15680) then nI (numF (dcF S.1.1 (tS S x).2.1.length (nthF (famB S.1.1 (tS S x).2.1) (cN i))) 0 (tS S x).2.1.length) else -3) else -1
def g_stands (S : GS) (x : Int32) : Int32 := if inB x 6 then (if (tS S x).1 = 0 then -11 else nI (cF (famB S.1.1 (tS S x).2.1) (cdF S.1.1 (tS S x).2.1 (tS S x).2.1.length))) else -1
def g_way (S : GS) (x : Int32) : Int32 := if inB x 6 then (if (tS S x).1 = 0 then -11 else nI (toFoot S.1.1 30 (toTop S.1.1 30 (tS S x).2.1).2).1) else -1
/-- raised for one i behind the other -/
def rsq : List Nat → List Nat → Option (List Nat)
  | w, [] => some w
  | w, i :: l => if fhC w i ≠ 0 then rsq (raiseW w i) l else none
def metB (w : List Nat) (l l' : List Nat) : Bool := (rsq w l).isSome && decide (rsq w l = rsq w l')
def g_pair (S : GS) (x i j : Int32) : Int32 := if inB x 6 && (inS i S.1.1 && (inS j S.1.1 && decide (i ≠ j))) then (if (tS S x).1 = 0 then -11 else if fhC (tS S x).2.1 (cN i) = 0 ∨ fhC (tS S x).2.1 (cN j) = 0 then -3 else if metB (tS S x).2.1 [cN i, cN j] [cN j, cN i] then nI 1 else if metB (tS S x).2.1 [cN i, cN j, cN j, cN i] [cN j, cN i, cN i, cN j] then nI 2 else nI 0) else -1
def inP (S : GS) (x : Int32) : List (List Nat) := insW (tS S x).2.1 (tS S x).2.1.length
def f_insert (S : GS) (x y : Int32) : Int32 × GS := if inB x 6 && inB y 6 then (if (tS S x).1 = 0 then (-11, S) else (nI (inP S x).length, putT S (cN y) (2, rdL (inP S x), (inP S x).map List.length))) else (-1, S)
def g_record (S : GS) (x r : Int32) : Int32 := if inB x 6 then (if (tS S x).1 = 0 then -11 else if inB r (inP S x).length then nI (numF ((turW (tS S x).2.1 (tS S x).2.1.length).getD (cN r) []) 0 ((inP S x).getD (cN r) []).length) else -12) else -1
def g_alike (S : GS) (x y : Int32) : Int32 := if inB x 6 && inB y 6 then (if (tS S x).1 = 0 ∨ (tS S y).1 = 0 then -11 else gBo (decide (rdL (inP S x) = rdL (inP S y) ∧ (inP S x).map List.length = (inP S y).map List.length))) else -1
def shB (n : Nat) (D : Int32) : Bool := decide (0 ≤ D) && shOk (cN D) n
def shL (D : Int32) : List Nat := digL (cN D) (ndF 10 (cN D))
def g_count (S : GS) (a b : Int32) : Int32 := if shB S.1.1 a && (decide (0 ≤ b) && coOk (cN b) S.1.1) then (if sumF (fun i => coF (cN b) S.1.1 (i + 1)) S.1.1 = (shL a).sum then (sF (shL a) S.1.1 (fun _ => nI 1) (cntB S.1.1 (shL a) none) 12 [] 0 0 (coF (cN b) S.1.1) (lN 1)).toInt32 else nI 0) else -1
def g_together (S : GS) (a b c : Int32) : Int32 := if shB S.1.1 a && (shB S.1.1 b && (shB S.1.1 c && decide ((shL a).sum + (shL b).sum ≤ 6))) then (if (shL a).sum + (shL b).sum = (shL c).sum ∧ difOk (shL c) (shL a) = true then (sF (shL b) S.1.1 (fun _ => nI 1) (cntB S.1.1 (shL b) (some (74, shL a))) 12 [] 0 0 (fun x => (shL c).getD (x - 1) 0 - (shL a).getD (x - 1) 0) (lN 1)).toInt32 else nI 0) else -1
def f_worth (S : GS) (l v : Int32) : Int32 × GS := if inR l 1 S.1.1 && inR v 0 99 then (nI (S.1.2.2.2 (cN l)), ((S.1.1, S.1.2.1, S.1.2.2.1, fun k => if k = cN l then cN v else S.1.2.2.2 k), S.2)) else (-1, S)
def woF (S : GS) (a : Int32) : Int64 := sF (shL a) S.1.1 (fun x => nI (S.1.2.2.2 x)) (cntB S.1.1 (shL a) none) 12 [] 0 0 (fun _ => 6) (lN 1)
def g_worthOf (S : GS) (a : Int32) : Int32 := if shB S.1.1 a then (if 2147483647 < woF S a then -16 else (woF S a).toInt32) else -1
def f_seed (S : GS) (v : Int32) : Int32 × GS := (S.1.2.1, ((S.1.1, v, S.1.2.2), S.2))
def ltF (n : Nat) : Nat → Int32 → List Nat → Int32 × List Nat
  | 0, z, w => (z, w)
  | k + 1, z, w => ltF n k (zNext z) (w ++ [1 + cN (zHi (zNext z)) % n])
def loR (S : GS) (k : Int32) : Int32 × List Nat := ltF S.1.1 (cN k) S.1.2.1 []
def f_lot (S : GS) (x k : Int32) : Int32 × GS := if inB x 6 && inR k 0 6 then (nI (numF (loR S k).2 0 (loR S k).2.length), putT ((S.1.1, (loR S k).1, S.1.2.2), S.2) (cN x) (1, (loR S k).2, [])) else (-1, S)
def f_sheet (S : GS) (x so n : Int32) : Int32 × GS := if inB x 4 && (decide (-1 ≤ so) && decide (so ≤ nI 2)) then (if so = -1 then (nI 1, setSh S (cN x) (0, 0, fun _ => nI 0)) else if nI 40 < n then (-1, S) else if n < 0 then (-14, S) else (nI 1, setSh S (cN x) (cN so + 1, cN n, fun _ => nI 0))) else (-1, S)
def f_put (S : GS) (x i v : Int32) : Int32 × GS := if inB x 4 then (if (S.2.2.2 (cN x)).1 = 0 then (-11, S) else if inB i (S.2.2.2 (cN x)).2.1 then (nI 1, setSh S (cN x) ((S.2.2.2 (cN x)).1, (S.2.2.2 (cN x)).2.1, fun k => if k = cN i then cutS ((S.2.2.2 (cN x)).1 - 1) v else (S.2.2.2 (cN x)).2.2 k)) else (-12, S)) else (-1, S)
def g_item (S : GS) (x so i : Int32) : Int32 := if inB x 4 && inR so 0 2 then (if (S.2.2.2 (cN x)).1 = 0 then -11 else if so ≠ nI ((S.2.2.2 (cN x)).1 - 1) then -13 else if inB i (S.2.2.2 (cN x)).2.1 then (S.2.2.2 (cN x)).2.2 (cN i) else -12) else -1
def f_copy (S : GS) (x i y j n : Int32) : Int32 × GS := if inB x 4 && inB y 4 then (if (S.2.2.2 (cN x)).1 = 0 ∨ (S.2.2.2 (cN y)).1 = 0 then (-11, S) else if (S.2.2.2 (cN x)).1 ≠ (S.2.2.2 (cN y)).1 then (-13, S) else if hpB i n (S.2.2.2 (cN x)).2.1 && hpB j n (S.2.2.2 (cN y)).2.1 then (n, setSh S (cN y) ((S.2.2.2 (cN y)).1, (S.2.2.2 (cN y)).2.1, fun k => if cN j ≤ k ∧ k < cN j + cN n then (S.2.2.2 (cN x)).2.2 (cN i + (k - cN j)) else (S.2.2.2 (cN y)).2.2 k)) else (-12, S)) else (-1, S)
def f_lay (S : GS) (x y i : Int32) : Int32 × GS := if inB x 6 && inB y 4 then (if (tS S x).1 = 0 ∨ (S.2.2.2 (cN y)).1 = 0 then (-11, S) else if (S.2.2.2 (cN y)).1 = 3 then (-13, S) else if hpB i (nI (tS S x).2.1.length) (S.2.2.2 (cN y)).2.1 then (nI (tS S x).2.1.length, setSh S (cN y) ((S.2.2.2 (cN y)).1, (S.2.2.2 (cN y)).2.1, fun k => if cN i ≤ k ∧ k < cN i + (tS S x).2.1.length then nI ((tS S x).2.1.getD (k - cN i) 0) else (S.2.2.2 (cN y)).2.2 k)) else (-12, S)) else (-1, S)
def tkW (S : GS) (x i k : Int32) : List Nat := (List.range (cN k)).map (fun p => cN ((S.2.2.2 (cN x)).2.2 (cN i + p)))
def tkA (S : GS) (x i k : Int32) : Bool := (List.range (cN k)).all (fun p => inR ((S.2.2.2 (cN x)).2.2 (cN i + p)) 1 S.1.1)
def f_take (S : GS) (x i k y : Int32) : Int32 × GS := if inB x 4 && (inR k 0 6 && inB y 6) then (if (S.2.2.2 (cN x)).1 = 0 then (-11, S) else if (S.2.2.2 (cN x)).1 = 3 then (-13, S) else if hpB i k (S.2.2.2 (cN x)).2.1 then (if tkA S x i k then (nI (numF (tkW S x i k) 0 (tkW S x i k).length), putT S (cN y) (1, tkW S x i k, [])) else (-1, S)) else (-12, S)) else (-1, S)
def lsS (A : SS) : Int32 := nI (sumF (fun s => (A.2.2.1 s).2.1.length) 6)
def g_many (S : GS) (y : Int32) : Int32 := if y = nI 0 then nI S.1.1 else if y = nI 1 then hsF (fun s => (S.1.2.2.1 s).1) 6 else if y = nI 2 then lsS S.1 else if y = nI 3 then nI S.2.2.1.length else -1
def f_keep (S : GS) : Int32 × GS := (nI 1, (S.1, some S.1, S.2.2))
def f_again (S : GS) : Int32 × GS := match S.2.1 with
  | none => (-3, S)
  | some K => (lsS K, (K, S.2))
