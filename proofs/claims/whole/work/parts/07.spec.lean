/-! what the answers are, in the reference's words. B: its boolean arrays (0 refers, 1 entry, 2 found, 3 aProhibits, 4 way); N: its counters (0 concepts, 1 arcs, 2 contexts, 3 units, 4 size, 5 facts); E: its int arrays (0 cDocument, 1 cType, 2 cBalance, 3 cPeriod, 4 aDocument, 5 aRole, 6 aSort, 7 aFrom, 8 aTo, 9 aNumber, 10 aPriority, 11 xEntity, 12 xStart, 13 xEnd, 14 xScene, 15 over1, 16 over2, 17 under, 18 written, 19 fConcept, 20 fContext, 21 fUnit, 22 fMode, 23 fK); V: fValue -/
def ix (x : Int32) : Nat := x.toNatClampNeg
theorem ix_nI {n : Nat} (h : n < 2 ^ 31) : ix (nI n) = n := nI_clamp h
def m_in (v lo hi : Int32) : Bool := decide (lo ≤ v) && decide (v ≤ hi)
section SP
variable (B : Nat → Nat → Bool) (N : Nat → Nat) (E : Nat → Nat → Int32) (V : Nat → Int64)
def m_known (c : Nat) : Bool := B 2 (ix (E 0 c))
def m_counts (a : Nat) : Bool := B 2 (ix (E 4 a)) && (m_known B E (ix (E 7 a)) && m_known B E (ix (E 8 a)))
def m_alike (a b : Nat) : Bool := decide (E 5 a = E 5 b) && (decide (E 6 a = E 6 b) && (decide (E 7 a = E 7 b) && (decide (E 8 a = E 8 b) && decide (E 9 a = E 9 b))))
def m_beat (a b : Nat) : Bool := (m_counts B E b && m_alike E a b) && (decide (E 10 a < E 10 b) || (decide (E 10 b = E 10 a) && (B 3 b || decide (b < a))))
def m_left (a : Nat) : Bool := m_counts B E a && allB (fun b => !(m_beat B E a b)) (N 1)
def m_eqX (a b : Nat) : Bool := decide (E 11 a = E 11 b) && (decide (E 12 a = E 12 b) && (decide (E 13 a = E 13 b) && decide (E 14 a = E 14 b)))
def m_eqU (a b : Int32) : Bool := if a < 0 ∨ b < 0 then decide (a = b) else ((decide (E 15 (ix a) = E 15 (ix b)) && decide (E 16 (ix a) = E 16 (ix b))) || (decide (E 15 (ix a) = E 16 (ix b)) && decide (E 16 (ix a) = E 15 (ix b)))) && decide (E 17 (ix a) = E 17 (ix b))
def m_text (f : Nat) : Bool := decide (E 1 (ix (E 19 f)) = 0)
def m_money (u : Int32) : Bool := decide (0 ≤ u) && (decide (6 ≤ E 15 (ix u)) && (decide (E 16 (ix u) = 0) && decide (E 17 (ix u) = 0)))
def m_fault (f : Nat) : Int32 :=
  if m_known B E (ix (E 19 f)) = false then 1
  else if m_text E f = (!decide (E 21 f < 0)) ∨ (E 1 (ix (E 19 f)) = 2 ∧ m_money E (E 21 f) = false) then 2
  else if decide (E 12 (ix (E 20 f)) = -1) = (!decide (E 3 (ix (E 19 f)) = 0)) then 3
  else if m_text E f = decide (E 22 f = 0) then 0 else 4
def m_twins (a b : Nat) : Bool := decide (a ≠ b) && (decide (E 19 a = E 19 b) && (m_eqX E (ix (E 20 a)) (ix (E 20 b)) && m_eqU E (E 21 a) (E 21 b)))
/-- the lowest of the first n with P, or -1 -/
def loN (P : Nat → Bool) : Nat → Int32
  | 0 => -1
  | n + 1 => if loN P n < 0 then (if P n = true then nI n else -1) else loN P n
def m_twin (f : Nat) : Int32 := loN (fun g => m_twins E f g) (N 5)
def m_single (f : Nat) : Bool := !(m_text E f) && (decide (m_fault B E f = 0) && decide (m_twin N E f < 0))
def m_part (r : Int32) (f a g : Nat) : Bool := (decide (E 6 a = 0) && (decide (E 5 a = r) && (decide (E 7 a = E 19 f) && decide (E 8 a = E 19 g)))) && (m_eqX E (ix (E 20 f)) (ix (E 20 g)) && (m_eqU E (E 21 f) (E 21 g) && (m_left B N E a && m_single B N E g)))
def m_is (r : Int32) (f k : Nat) : Bool := decide (k % 32 < N 1) && m_part B N E r f (k % 32) (k / 32)
def m_bound (r : Int32) (f : Nat) : Bool := anyB (fun k => m_is B N E r f k) (32 * N 5) && m_single B N E f
/-- how many digits: 0 has none -/
def dg : Nat → Nat → Nat
  | 0, _ => 0
  | q + 1, n => if n = 0 then 0 else dg q (n / 10) + 1
def m_abs (v : Int64) : Nat := v.toInt.natAbs
def m_clamp (d : Int32) : Int32 := if 6 < d then 6 else if d < -9 then -9 else d
def m_places (md k : Int32) (v : Int64) : Int32 :=
  if md = 1 then k
  else if ¬ md = 2 ∨ v = 0 then 6
  else m_clamp (if 1000000 ≤ m_abs v then k - nI (dg 20 (m_abs v / 1000000)) else k + nI (6 - dg 20 (m_abs v)))
def m_ten (n : Int32) : Int64 := Int64.ofNat (10 ^ ix n)
def m_rounded (f : Nat) : Int64 := r_m (V f) (m_ten (6 - m_places (E 22 f) (E 23 f) (V f)))
def m_sum (r : Int32) (f : Nat) : Int64 := sumN (fun k => if m_is B N E r f k = true then (E 9 (k % 32)).toInt64 * m_rounded E V (k / 32) else 0) (32 * N 5)
def m_vague (f : Nat) : Bool := decide (E 22 f = 2) && decide (E 23 f = 0)
def m_agrees (r : Int32) (f : Nat) : Bool := (!(m_vague E f) && allB (fun k => !(m_is B N E r f k && m_vague E (k / 32))) (32 * N 5)) && decide (r_m (m_sum B N E V r f) (m_ten (7 - m_places (E 22 f) (E 23 f) (V f))) = 10 * m_rounded E V f)
def m_wrong (a : Nat) : Bool := decide (E 6 a = 0) && (m_left B N E a && (!decide (E 2 (ix (E 7 a)) = 0) && (!decide (E 2 (ix (E 8 a)) = 0) && (decide (E 2 (ix (E 7 a)) = E 2 (ix (E 8 a))) == decide (E 9 a < 0)))))
/-- the tree arcs of a role, and the ways that they make -/
def m_arcs (r : Int32) (i j : Nat) : Bool := anyB (fun a => decide (E 6 a = 1) && (decide (E 5 a = r) && (m_left B N E a && (decide (ix (E 7 a) = i) && decide (ix (E 8 a) = j))))) (N 1)
def m_way (r : Int32) : Nat → Nat → Bool := w_all (m_arcs B N E r) 16
/-- the problems in their order -/
def m_p1 (kd f : Nat) : List Int32 := if m_fault B E f = nI kd then [nI (10000 * kd + 100 * f)] else []
def m_p5 (f : Nat) : List Int32 := if 0 ≤ m_twin N E f ∧ m_twin N E f < nI f then [nI (50000 + 100 * f) + m_twin N E f] else []
def m_p6 (a : Nat) : List Int32 := if B 2 (ix (E 4 a)) = true ∧ m_counts B E a = false then [nI (60000 + 100 * a)] else []
def m_p7 (a : Nat) : List Int32 := if m_wrong B N E a = true then [nI (70000 + 100 * a)] else []
def m_p8 (r c : Nat) : List Int32 := if m_way B N E (nI r) c c = true then [nI (80000 + 100 * r + c)] else []
def m_p9 (r f : Nat) : List Int32 := if m_bound B N E (nI r) f = true ∧ m_agrees B N E V (nI r) f = false then [nI (90000 + 100 * r + f)] else []
def m_probs : List Int32 :=
  lstN (fun q => lstN (fun f => m_p1 B E (q + 1) f) (N 5)) 4 ++ (lstN (fun f => m_p5 N E f) (N 5) ++ (lstN (fun a => m_p6 B E a) (N 1) ++ (lstN (fun a => m_p7 B N E a) (N 1) ++ (lstN (fun r => lstN (fun c => m_p8 B N E r c) (N 0)) 3 ++ lstN (fun r => lstN (fun f => m_p9 B N E V r f) (N 5)) 3))))
end SP
/-! what is written -/
def s_dig (x : Int32) : Bool := decide (48 ≤ x) && decide (x ≤ 57)
def s_fit (x : Int32) : Bool := s_dig x || (decide (x = 46) || (decide (x = 43) || decide (x = 45)))
