/-! WHAT EACH CALL ANSWERS AND DOES (ranks, persons; who trembles) -/
def bey (A : As) : Int32 × As := (-1000001, fd A 0)
def ful (A : As) : Int32 × As := (-1000002, fd A 1)
def knd (A : As) : Int32 × As := (-1000003, fd A 2)
def non (A : As) : Int32 × As := (-1000004, fd A 3)
def sta (A : As) : Int32 × As := (-1000005, fd A 4)
def mis (A : As) : Int32 × As := (-1000006, fd A 5)
def siz (A : As) : Int32 × As := (-1000007, fd A 6)
abbrev cl (x : Int32) : Nat := x.toNatClampNeg
def opSeats (A : As) (r v : Int32) : Int32 × As :=
  if (0 ≤ r ∧ r ≤ 7) ∧ (0 ≤ v ∧ v ≤ 4) then (if v < nI (cnt (inP A.1 r) (nn A.1)) then sta A else (A.1 8 (cl r), (up2 A.1 8 (cl r) v, A.2))) else bey A
def opRankOf (A : As) (r w : Int32) : Int32 × As :=
  if 0 ≤ r ∧ r ≤ 7 then (if w = 0 then (A.1 8 (cl r), A) else if w = 1 then (nI (cnt (inP A.1 r) (nn A.1)), A) else if w = 2 then (bset (nn A.1) (inP A.1 r), A) else if w = 3 then (nI (cnt (fun p => inP A.1 r p && cgP A.1 p) (nn A.1)), A) else if w = 4 then (sm (A.1 5) (inP A.1 r) (nn A.1), A) else bey A) else bey A
def opLaw (A : As) (w v : Int32) : Int32 × As :=
  if (0 ≤ w ∧ w ≤ 2) ∧ (jLeast.getD (cl w) 0 ≤ v ∧ v ≤ jMost.getD (cl w) 0) then (A.1 9 (cl w), (up2 A.1 9 (cl w) v, A.2)) else bey A
def opPerson (A : As) (k r : Int32) : Int32 × As :=
  if (0 ≤ k ∧ k ≤ 6) ∧ (0 ≤ r ∧ r ≤ 7) then (if ¬ nI (cnt (inP A.1 r) (nn A.1)) < A.1 8 (cl r) then sta A else if ¬ nn A.1 < 12 then ful A else (nI (nn A.1), (adK A.1 k r, A.2))) else bey A
def opOf (A : As) (p w : Int32) : Int32 × As :=
  if 0 ≤ p ∧ p < A.1 0 0 then (if w = 0 then (A.1 1 (cl p), A) else if w = 1 then (A.1 2 (cl p), A) else if w = 2 then (A.1 3 (cl p), A) else if w = 3 then (A.1 4 (cl p), A) else if w = 4 then (A.1 5 (cl p), A) else if w = 5 then (A.1 6 (cl p), A) else if w = 6 then (A.1 7 (cl p), A) else bey A) else bey A
def opChange (A : As) (p w v : Int32) : Int32 × As :=
  if 0 ≤ p ∧ p < A.1 0 0 then (if w = 0 then (if 0 ≤ v ∧ v ≤ 6 then (A.1 1 (cl p), (up2 A.1 1 (cl p) v, A.2)) else bey A) else if w = 2 then (if 0 ≤ v ∧ v ≤ 99 then (A.1 3 (cl p), (up2 A.1 3 (cl p) v, A.2)) else bey A) else if w = 3 then (if 0 ≤ v ∧ v ≤ 3 then (A.1 4 (cl p), (up2 A.1 4 (cl p) v, A.2)) else bey A) else if w = 4 then (if 0 ≤ v ∧ v ≤ 9999 then (A.1 5 (cl p), (up2 A.1 5 (cl p) v, A.2)) else bey A) else bey A) else bey A
def opGrudge (A : As) (p q : Int32) : Int32 × As :=
  if (0 ≤ p ∧ p < A.1 0 0) ∧ (q = -1 ∨ (0 ≤ q ∧ q < A.1 0 0)) ∧ ¬ p = q then (A.1 6 (cl p), (up2 (up2 A.1 6 (cl p) q) 7 (cl p) 0, A.2)) else bey A
def opPut (A : As) (p r : Int32) : Int32 × As :=
  if (0 ≤ p ∧ p < A.1 0 0) ∧ (-1 ≤ r ∧ r ≤ 7) then (if (r = -1 ∧ A.1 2 (cl p) = -1) ∨ (¬ r = -1 ∧ ¬ A.1 2 (cl p) = -1) ∨ (¬ r = -1 ∧ ¬ nI (cnt (inP A.1 r) (nn A.1)) < A.1 8 (cl r)) then sta A else (A.1 2 (cl p), (up2 A.1 2 (cl p) r, A.2))) else bey A
def opGift (A : As) (p v : Int32) : Int32 × As :=
  if (0 ≤ p ∧ p < A.1 0 0) ∧ (1 ≤ v ∧ v ≤ 9999) then (if (0 ≤ A.1 6 (cl p) ∧ A.1 6 (cl p) < A.1 0 0) ∧ v ≤ A.1 5 (cl (A.1 6 (cl p))) ∧ A.1 5 (cl p) + v ≤ 9999 then (tkK A.1 (cl p) (cl (A.1 6 (cl p))) v 7 (cl p), (tkK A.1 (cl p) (cl (A.1 6 (cl p))) v, A.2)) else sta A) else bey A
def opExchange (A : As) (p q : Int32) : Int32 × As :=
  if (0 ≤ p ∧ p < A.1 0 0) ∧ (0 ≤ q ∧ q < A.1 0 0) ∧ ¬ p = q then (if A.1 2 (cl p) = -1 ∨ A.1 2 (cl q) = -1 then sta A else (1, (up2 (up2 A.1 2 (cl p) (A.1 2 (cl q))) 2 (cl q) (A.1 2 (cl p)), A.2))) else bey A
def opWants (A : As) (p q : Int32) : Int32 × As :=
  if (0 ≤ p ∧ p < A.1 0 0) ∧ (0 ≤ q ∧ q < A.1 0 0) ∧ ¬ p = q then (b2 (wn A.1 (cl p) (cl q) = true), A) else bey A
def opAgainst (A : As) (p : Int32) : Int32 × As :=
  if 0 ≤ p ∧ p < A.1 0 0 then (if A.1 2 (cl p) = -1 then sta A else (bset (nn A.1) (agP A.1 (cl p)), A)) else bey A
def lkF (K : Mm) (w a : Nat) : Nat → Nat → Int32
  | 0, _ => -1
  | f + 1, m => if w + m ≤ a then (if 0 < nI (w + m) ∧ nI a ≤ nI (w + m) * K 9 1 then nI m else lkF K w a f (m + 1)) else -1
def opLacks (A : As) (p : Int32) : Int32 × As :=
  if 0 ≤ p ∧ p < A.1 0 0 then (if A.1 2 (cl p) = -1 then sta A else if lkF A.1 (cnt (agP A.1 (cl p)) (nn A.1)) (cnt (blP A.1 (cl p)) (nn A.1)) 14 0 = -1 then non A else (lkF A.1 (cnt (agP A.1 (cl p)) (nn A.1)) (cnt (blP A.1 (cl p)) (nn A.1)) 14 0, A)) else bey A
def opTremble (A : As) : Int32 × As := (bset (nn A.1) (trP A.1), A)
def opHeir (A : As) (r : Int32) : Int32 × As :=
  if 0 ≤ r ∧ r ≤ 6 then (if hrS A.1 (inP A.1 (r + 1)) = -1 then non A else (hrS A.1 (inP A.1 (r + 1)), A)) else bey A
