-- PARSE: recursive descent as the reference does it, on fields and steps (F, p), by a fuel
abbrev PSt : Type := (Nat → Nat) × (Nat → Nat)
def nx (T : Nat → Nat) (s : PSt) : PSt := (nextF T s.1, s.2)
def stp (s : PSt) (w v : Nat) : PSt := (pu s.1 24 (s.1 24 + 1), pu (pu s.2 (s.1 25 + 2 * s.1 24) w) (s.1 25 + 2 * s.1 24 + 1) v)
def fl (s : PSt) (i v : Nat) : PSt := (pu s.1 i v, s.2)
/-- the signs of a level: 0 |, 1 &, 2 < = >, 3 + -, 4 * / -/
def sgL (l : Nat) (F : Nat → Nat) : Bool := decide (F 19 = 3 ∧ ((l = 0 ∧ F 21 = 124) ∨ (l = 1 ∧ F 21 = 38) ∨ (l = 2 ∧ (F 21 = 60 ∨ F 21 = 61 ∨ F 21 = 62)) ∨ (l = 3 ∧ (F 21 = 43 ∨ F 21 = 45)) ∨ (l = 4 ∧ (F 21 = 42 ∨ F 21 = 47))))
def nmL (key e : Nat) : Bool := decide ((key = 0 ∧ (e = 114 ∨ e = 115 ∨ e = 116)) ∨ (key = 1 ∧ (e = 101 ∨ e = 104)) ∨ (key = 2 ∧ (e = 114 ∨ e = 111)))
/-- levels 0 .. 4: either, both, test, sum, term; 5: part0; 10 + l: the loop of level l -/
def pz (T : Nat → Nat) (key : Nat) : Nat → Nat → PSt → Option (Bool × PSt)
  | 0, _, _ => none
  | n + 1, lev, s =>
    if lev < 5 then (match pz T key n (lev + 1) s with
      | some (true, s1) => pz T key n (10 + lev) s1
      | r => r)
    else if lev = 5 then
      (if s.1 19 = 2 then (let s1 := stp s 0 (s.1 20); some (true, nx T (fl s1 26 (s1.1 26 + 1))))
      else if s.1 19 = 1 ∧ ¬ s.1 21 = 0 ∧ nmL key (s.1 21) = true then (let s1 := stp s 1 (s.1 21); some (true, nx T (fl s1 26 (s1.1 26 + 1))))
      else if (s.1 19 = 3 ∧ s.1 21 = 33) ∧ s.1 23 < 8 then
        (match pz T key n 5 (nx T (fl s 23 (s.1 23 + 1))) with
        | some (true, s1) => some (true, stp (fl s1 23 (s1.1 23 - 1)) 2 33)
        | r => r)
      else if ¬ (s.1 19 = 3 ∧ s.1 21 = 40) ∨ s.1 22 = 8 then some (false, s)
      else (match pz T key n 0 (nx T (fl s 22 (s.1 22 + 1))) with
        | some (true, s1) => if s1.1 19 = 3 ∧ s1.1 21 = 41 then some (true, nx T (fl s1 22 (s1.1 22 - 1))) else some (false, s1)
        | r => r))
    else (if sgL (lev - 10) s.1 = true then
        (match pz T key n (lev - 10 + 1) (nx T s) with
        | some (true, s1) => if lev = 12 then some (true, stp s1 2 (s.1 21)) else pz T key n lev (stp s1 2 (s.1 21))
        | r => r)
      else some (true, s))
