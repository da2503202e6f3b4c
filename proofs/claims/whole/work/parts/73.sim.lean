-- SIM: the parser of the class, operators that wait, and the recursive descent come to the same
def levN (c : Nat) : Nat := if c = 124 then 1 else if c = 38 then 2 else if c = 60 ∨ c = 61 ∨ c = 62 then 3 else if c = 43 ∨ c = 45 then 4 else if c = 42 ∨ c = 47 then 5 else 0
theorem levN_le (c : Nat) : levN c ≤ 5 := by
  unfold levN
  repeat' split
  all_goals omega
abbrev Sps : Type := List (Nat × Nat)
/-- what waits and binds at least so tightly is laid -/
def clD (lv : Nat) : List Nat → Sps → List Nat × Sps
  | [], R => ([], R)
  | x :: O, R => if lv ≤ levN x then clD lv O (R ++ [(2, x)]) else (x :: O, R)
/-- the ! on top are laid -/
def clN : List Nat → (Nat → Nat) → Sps → (Nat → Nat) × Sps × List Nat
  | [], E, R => (E, R, [])
  | x :: O, E, R => if x = 33 then clN O (pu E 23 (E 23 - 1)) (R ++ [(2, 33)]) else (E, R, x :: O)
def hdL (O : List Nat) : Nat := match O with
  | [] => 0
  | x :: _ => levN x
abbrev CSt : Type := Bool × (Nat → Nat) × Sps × List Nat
/-- the class takes the token at hand -/
def cs (key : Nat) (s : CSt) : Option CSt :=
  let E := s.2.1
  let R := s.2.2.1
  let O := s.2.2.2
  if s.1 = true then
    (if E 19 = 2 then (let z := clN O (pu E 26 (E 26 + 1)) (R ++ [(0, E 20)]); some (false, z.1, z.2.1, z.2.2))
    else if E 19 = 1 ∧ ¬ E 21 = 0 ∧ nmL key (E 21) = true then (let z := clN O (pu E 26 (E 26 + 1)) (R ++ [(1, E 21)]); some (false, z.1, z.2.1, z.2.2))
    else if (E 19 = 3 ∧ E 21 = 40) ∧ E 22 < 8 then some (true, pu E 22 (E 22 + 1), R, 40 :: O)
    else if (E 19 = 3 ∧ E 21 = 33) ∧ E 23 < 8 then some (true, pu E 23 (E 23 + 1), R, 33 :: O)
    else none)
  else
    (if E 19 = 3 ∧ E 21 = 41 then
      (if E 22 = 0 then none else (let z := clD 1 O R; let y := clN z.1.tail (pu E 22 (E 22 - 1)) z.2; some (false, y.1, y.2.1, y.2.2)))
    else if E 19 = 3 ∧ 0 < levN (E 21) then
      (if levN (E 21) = 3 then
        (let z := clD 4 O R; if hdL z.1 = 3 then none else (let y := clD 3 z.1 z.2; some (true, E, y.2, E 21 :: y.1)))
      else (let z := clD (levN (E 21)) O R; some (true, E, z.2, E 21 :: z.1)))
    else none)
def nxC (T : Nat → Nat) (s : CSt) : CSt := (s.1, nextF T s.2.1, s.2.2)
def cit (T : Nat → Nat) (key : Nat) : Nat → CSt → Option CSt
  | 0, s => some s
  | n + 1, s => match cs key s with
    | some s1 => cit T key n (nxC T s1)
    | none => none
def rch (T : Nat → Nat) (key : Nat) (s s1 : CSt) : Prop := ∃ n, cit T key n s = some s1
theorem rch.rf (T : Nat → Nat) (key : Nat) (s : CSt) : rch T key s s := ⟨0, rfl⟩
theorem cit_add (T : Nat → Nat) (key : Nat) : ∀ (m n : Nat) (s s1 : CSt), cit T key m s = some s1 → cit T key (m + n) s = cit T key n s1
  | 0, n, s, s1, h => by cases h; rw [Nat.zero_add]
  | m + 1, n, s, s1, h => by
    rw [Nat.add_right_comm]
    rw [cit] at h ⊢
    split at h
    · exact cit_add T key m n _ _ h
    · cases h
theorem rch.tr {T : Nat → Nat} {key : Nat} {s s1 s2 : CSt} (h1 : rch T key s s1) (h2 : rch T key s1 s2) : rch T key s s2 := by
  obtain ⟨m, e1⟩ := h1
  obtain ⟨n, e2⟩ := h2
  exact ⟨m + n, (cit_add T key m n _ _ e1).trans e2⟩
theorem rch.one {T : Nat → Nat} {key : Nat} {s s1 : CSt} (h : cs key s = some s1) : rch T key s (nxC T s1) := ⟨1, by rw [cit, h]; rfl⟩
/-- the class can't go on, and that is a fault -/
def jam (key : Nat) (s : CSt) : Prop := cs key s = none ∧ (¬ s.2.1 19 = 0 ∨ s.1 = true ∨ ¬ s.2.1 22 = 0)
/-- fields alike, but j more ! are open in the reference -/
def agE (j : Nat) (F E : Nat → Nat) : Prop := (∀ i, i < 22 → E i = F i) ∧ E 22 = F 22 ∧ E 23 + j = F 23 ∧ E 26 = F 26
theorem pu_ag {E F : Nat → Nat} {a v i : Nat} (h : E i = F i) : pu E a v i = pu F a v i := by
  unfold pu
  split
  · rfl
  · exact h
theorem next_ag {T : Nat → Nat} {j : Nat} {F E : Nat → Nat} (h : agE j F E) : agE j (nextF T F) (nextF T E) := by
  obtain ⟨h1, h2, h3, h4⟩ := h
  refine ⟨fun i hi => ?_, by rw [next_i _ _ _ (by decide), next_i _ _ _ (by decide)]; exact h2, by rw [next_i _ _ _ (by decide), next_i _ _ _ (by decide)]; exact h3, by rw [next_i _ _ _ (by decide), next_i _ _ _ (by decide)]; exact h4⟩
  have hi := h1 i hi
  unfold nextF
  rw [h1 16 (by decide), h1 18 (by decide)]
  generalize skipT T (F 16) (F 18) = b
  unfold nextB
  rw [h1 16 (by decide), h1 18 (by decide), h1 19 (by decide)]
  split
  · exact pu_ag (pu_ag (pu_ag hi))
  · split
    · exact pu_ag (pu_ag (pu_ag (pu_ag hi)))
    · split
      · exact pu_ag (pu_ag (pu_ag (pu_ag hi)))
      · exact pu_ag (pu_ag (pu_ag (pu_ag hi)))
/-- the steps that are laid -/
def lst (s : PSt) : Sps := (List.range (s.1 24)).map (fun k => (s.2 (s.1 25 + 2 * k), s.2 (s.1 25 + 2 * k + 1)))
theorem lst_stp (s : PSt) (w v : Nat) : lst (stp s w v) = lst s ++ [(w, v)] := by
  unfold lst stp
  dsimp only
  rw [pu_eq, pu_ne _ _ (by decide), List.range_succ, List.map_append]
  congr 1
  · apply List.map_congr_left
    intro k hk
    rw [List.mem_range] at hk
    rw [pu_ne _ _ (by omega), pu_ne _ _ (by omega), pu_ne _ _ (by omega), pu_ne _ _ (by omega)]
  · simp only [List.map_cons, List.map_nil]
    rw [pu_eq, pu_ne _ _ (by omega), pu_eq]
theorem lst_fl (s : PSt) {i v : Nat} (h4 : i ≠ 24) (h5 : i ≠ 25) : lst (fl s i v) = lst s := by
  unfold lst fl
  dsimp only
  rw [pu_ne _ _ (Ne.symm h4), pu_ne _ _ (Ne.symm h5)]
theorem lst_nx (T : Nat → Nat) (s : PSt) : lst (nx T s) = lst s := by
  unfold lst nx
  dsimp only
  rw [next_i _ _ _ (by decide), next_i _ _ _ (by decide)]
def flu (P : List Nat) : Sps := P.map (fun x => (2, x))
def ct : List Nat → Nat
  | [] => 0
  | x :: O => if x = 33 then ct O + 1 else 0
def sT : List Nat → List Nat
  | [] => []
  | x :: O => if x = 33 then sT O else x :: O
theorem clN_eq : ∀ (O : List Nat) (E : Nat → Nat) (R : Sps), ct O ≤ E 23 → (clN O E R).2 = (R ++ List.replicate (ct O) (2, 33), sT O) ∧ (∀ i, i ≠ 23 → (clN O E R).1 i = E i) ∧ (clN O E R).1 23 + ct O = E 23
  | [], E, R, h => by
    unfold clN ct sT
    refine ⟨by simp, fun _ _ => rfl, rfl⟩
  | x :: O, E, R, h => by
    unfold clN
    by_cases e : x = 33
    · rw [if_pos e]
      have hc : ct (x :: O) = ct O + 1 := by rw [ct, if_pos e]
      have hs : sT (x :: O) = sT O := by rw [sT, if_pos e]
      rw [hc] at h
      obtain ⟨g1, g2, g3⟩ := clN_eq O (pu E 23 (E 23 - 1)) (R ++ [(2, 33)]) (by rw [pu_eq]; omega)
      rw [pu_eq] at g3
      refine ⟨?_, fun i hi => (g2 i hi).trans (pu_ne _ _ hi), by rw [hc]; omega⟩
      rw [g1, hc, hs, List.append_assoc, List.replicate_succ]
      rfl
    · rw [if_neg e]
      have hc : ct (x :: O) = 0 := by rw [ct, if_neg e]
      have hs : sT (x :: O) = x :: O := by rw [sT, if_neg e]
      rw [hc, hs]
      exact ⟨by simp, fun _ _ => rfl, rfl⟩
theorem clD_app (lv : Nat) : ∀ (P O : List Nat) (R : Sps), (∀ x, x ∈ P → lv ≤ levN x) → clD lv (P ++ O) R = clD lv O (R ++ flu P)
  | [], O, R, _ => by simp [flu]
  | x :: P, O, R, h => by
    rw [List.cons_append, clD, if_pos (h x List.mem_cons_self), clD_app lv P O _ (fun y hy => h y (List.mem_cons_of_mem _ hy))]
    simp [flu]
theorem clD_stop {lv : Nat} {O : List Nat} {R : Sps} (h : hdL O < lv) : clD lv O R = (O, R) := by
  cases O with
  | nil => rfl
  | cons x O =>
    rw [clD, if_neg (by unfold hdL at h; dsimp only at h; omega)]
/-- a test waits in P, only tighter ones above it -/
def has3 (P : List Nat) : Prop := ∃ P1 x P2, P = P1 ++ x :: P2 ∧ (∀ y, y ∈ P1 → 4 ≤ levN y) ∧ levN x = 3
/-- behind a part of a level: no sign of it is at hand, but of tests, of which one waits then -/
def pstL (lev : Nat) (F : Nat → Nat) (P : List Nat) : Prop := (∀ l, lev ≤ l → l ≤ 4 → l ≠ 2 → sgL l F = false) ∧ (lev ≤ 2 → sgL 2 F = true → has3 P)
theorem sgL_lev {l : Nat} {F : Nat → Nat} (hl : l ≤ 4) : sgL l F = true ↔ F 19 = 3 ∧ levN (F 21) = l + 1 := by
  unfold sgL
  rw [decide_eq_true_iff]
  unfold levN
  constructor
  · rintro ⟨h, h2⟩
    refine ⟨h, ?_⟩
    rcases h2 with ⟨rfl, h⟩ | ⟨rfl, h⟩ | ⟨rfl, h⟩ | ⟨rfl, h⟩ | ⟨rfl, h⟩
    · rw [if_pos h]
    · rw [if_neg (by omega), if_pos h]
    · rw [if_neg (by omega), if_neg (by omega), if_pos h]
    · rw [if_neg (by omega), if_neg (by omega), if_neg (by omega), if_pos h]
    · rw [if_neg (by omega), if_neg (by omega), if_neg (by omega), if_neg (by omega), if_pos h]
  · rintro ⟨h, h2⟩
    refine ⟨h, ?_⟩
    split at h2
    · omega
    · split at h2
      · omega
      · split at h2
        · omega
        · split at h2
          · omega
          · split at h2
            · omega
            · omega
/-- where no part is wanted, with such waiting, a token that isn't taken jams -/
theorem jam_of {key : Nat} {E : Nat → Nat} {R : Sps} {P O : List Nat} (hp : pstL 0 E P) (h41 : ¬ (E 19 = 3 ∧ E 21 = 41) ∨ E 22 = 0) (hend : ¬ E 19 = 0 ∨ ¬ E 22 = 0) : jam key (false, E, R, P ++ O) := by
  refine ⟨?_, hend.elim .inl (fun h => .inr (.inr h))⟩
  unfold cs
  dsimp only
  rw [if_neg Bool.false_ne_true]
  by_cases h1 : E 19 = 3 ∧ E 21 = 41
  · rw [if_pos h1, if_pos (h41.resolve_left (fun z => z h1))]
  · rw [if_neg h1]
    by_cases h2 : E 19 = 3 ∧ 0 < levN (E 21)
    · rw [if_pos h2]
      have hb := levN_le (E 21)
      have h3 : levN (E 21) = 3 := by
        refine Decidable.byContradiction (fun z => ?_)
        have := hp.1 (levN (E 21) - 1) (by omega) (by omega) (by omega)
        rw [(sgL_lev (by omega)).mpr ⟨h2.1, by omega⟩] at this
        cases this
      rw [if_pos h3]
      obtain ⟨P1, x, P2, e1, e2, e3⟩ := hp.2 (by decide) ((sgL_lev (by decide)).mpr ⟨h2.1, h3⟩)
      have : clD 4 (P ++ O) R = (x :: (P2 ++ O), R ++ flu P1) := by
        rw [e1, List.append_assoc, clD_app 4 P1 _ R e2]
        exact clD_stop (by show levN x < 4; omega)
      rw [this]
      rw [if_pos (show hdL (x :: (P2 ++ O)) = 3 from e3)]
    · rw [if_neg h2]
/-- what the sim says of a part -/
def simT (T : Nat → Nat) (key lev : Nat) (s1 : PSt) (S : CSt) (O : List Nat) : Prop := ∃ E1 R1 P, rch T key S (false, E1, R1, P ++ O) ∧ agE 0 s1.1 E1 ∧ lst s1 = R1 ++ flu P ∧ (∀ x, x ∈ P → lev + 1 ≤ levN x) ∧ pstL lev s1.1 P
def simF (T : Nat → Nat) (key : Nat) (s1 : PSt) (S : CSt) : Prop := ∃ S1, rch T key S S1 ∧ jam key S1 ∧ S1.2.1 17 = s1.1 17
theorem pstL_up {lev : Nat} {F : Nat → Nat} {P : List Nat} (h : pstL (lev + 1) F P) (h0 : lev ≠ 2 → sgL lev F = false) (h2 : lev = 2 → sgL 2 F = true → has3 P) : pstL lev F P := by
  refine ⟨fun l h1 h3 h4 => ?_, fun h1 h3 => ?_⟩
  · by_cases e : l = lev
    · subst e; exact h0 h4
    · exact h.1 l (by omega) h3 h4
  · by_cases e : lev = 2
    · exact h2 e h3
    · exact h.2 (by omega) h3
theorem has3_app {P Q : List Nat} (h : has3 P) : has3 (P ++ Q) := by
  obtain ⟨P1, x, P2, e1, e2, e3⟩ := h
  exact ⟨P1, x, P2 ++ Q, by rw [e1, List.append_assoc, List.cons_append], e2, e3⟩
theorem sgL_same {l : Nat} {F G : Nat → Nat} (h1 : F 19 = G 19) (h2 : F 21 = G 21) : sgL l F = sgL l G := by
  unfold sgL
  simp only [h1, h2]
theorem sgL_stp (l : Nat) (s : PSt) (w v : Nat) : sgL l (stp s w v).1 = sgL l s.1 := sgL_same (by unfold stp; dsimp only; rw [pu_ne _ _ (by decide)]) (by unfold stp; dsimp only; rw [pu_ne _ _ (by decide)])
theorem agE_stp {j : Nat} {s : PSt} {E : Nat → Nat} (h : agE j s.1 E) (w v : Nat) : agE j (stp s w v).1 E := by
  obtain ⟨h1, h2, h3, h4⟩ := h
  unfold stp
  dsimp only
  exact ⟨fun i hi => by rw [pu_ne _ _ (by omega)]; exact h1 i hi, by rw [pu_ne _ _ (by decide)]; exact h2, by rw [pu_ne _ _ (by decide)]; exact h3, by rw [pu_ne _ _ (by decide)]; exact h4⟩
/-- a part that is taken at once: the ! before it are laid -/
theorem leaf_sim {T : Nat → Nat} {key : Nat} {s : PSt} {E : Nat → Nat} {R : Sps} {O : List Nat} {w v : Nat} (hag : agE 0 s.1 E) (hR : lst s = R) (hct : ct O ≤ E 23) (hcs : cs key (true, E, R, O) = some (false, (clN O (pu E 26 (E 26 + 1)) (R ++ [(w, v)])).1, (clN O (pu E 26 (E 26 + 1)) (R ++ [(w, v)])).2)) :
    ∃ E1, rch T key (true, E, R, O) (false, E1, lst (nx T (fl (stp s w v) 26 ((stp s w v).1 26 + 1))) ++ List.replicate (ct O) (2, 33), sT O) ∧ agE (ct O) (nx T (fl (stp s w v) 26 ((stp s w v).1 26 + 1))).1 E1 := by
  obtain ⟨h1, h2, h3, h4⟩ := hag
  obtain ⟨g1, g2, g3⟩ := clN_eq O (pu E 26 (E 26 + 1)) (R ++ [(w, v)]) (by rw [pu_ne _ _ (by decide)]; exact hct)
  refine ⟨nextF T (clN O (pu E 26 (E 26 + 1)) (R ++ [(w, v)])).1, ?_, ?_⟩
  · have := rch.one (T := T) hcs
    rw [lst_nx, lst_fl _ (by decide) (by decide), lst_stp, hR]
    unfold nxC at this
    dsimp only at this
    rw [g1] at this
    exact this
  · refine next_ag ?_
    unfold fl stp
    dsimp only
    rw [pu_ne _ _ (by decide)] at g3
    refine ⟨fun i hi => ?_, ?_, ?_, ?_⟩
    · rw [g2 i (by omega), pu_ne _ _ (by omega), pu_ne _ _ (by omega), pu_ne _ _ (by omega)]
      exact h1 i hi
    · rw [g2 22 (by decide), pu_ne _ _ (by decide), pu_ne _ _ (by decide), pu_ne _ _ (by decide)]
      exact h2
    · rw [pu_ne _ _ (by decide), pu_ne _ _ (by decide)]
      omega
    · rw [g2 26 (by decide), pu_eq, pu_eq, pu_ne _ _ (by decide), h4]
/-- one part: number, name, ! and what it turns, or brackets -/
def sim5 (T : Nat → Nat) (key n : Nat) : Prop := ∀ (s : PSt) (r : Bool × PSt) (c : Nat) (E : Nat → Nat) (O : List Nat), pz T key n 5 s = some r → okP c s → agE 0 s.1 E → ct O ≤ E 23 →
  (r.1 = true → ∃ E1, rch T key (true, E, lst s, O) (false, E1, lst r.2 ++ List.replicate (ct O) (2, 33), sT O) ∧ agE (ct O) r.2.1 E1) ∧ (r.1 = false → simF T key r.2 (true, E, lst s, O))
def simL (T : Nat → Nat) (key n lev : Nat) : Prop := ∀ (s : PSt) (r : Bool × PSt) (c : Nat) (E : Nat → Nat) (O : List Nat), pz T key n lev s = some r → okP c s → agE 0 s.1 E → ct O = 0 → hdL O ≤ lev →
  (r.1 = true → simT T key lev r.2 (true, E, lst s, O) O) ∧ (r.1 = false → simF T key r.2 (true, E, lst s, O))
def simK (T : Nat → Nat) (key n lev : Nat) : Prop := ∀ (s : PSt) (r : Bool × PSt) (c : Nat) (E : Nat → Nat) (R : Sps) (P O : List Nat), pz T key n (10 + lev) s = some r → okP c s → agE 0 s.1 E → lst s = R ++ flu P → (∀ x, x ∈ P → (if lev = 2 then 4 else lev + 1) ≤ levN x) → pstL (lev + 1) s.1 P → ct O = 0 → hdL O ≤ lev →
  (r.1 = true → simT T key lev r.2 (false, E, R, P ++ O) O) ∧ (r.1 = false → simF T key r.2 (false, E, R, P ++ O))
theorem simF.ext {T : Nat → Nat} {key : Nat} {s1 : PSt} {S S1 : CSt} (h : rch T key S S1) (h1 : simF T key s1 S1) : simF T key s1 S := by
  obtain ⟨Z, g1, g2⟩ := h1
  exact ⟨Z, h.tr g1, g2⟩
theorem simT.ext {T : Nat → Nat} {key lev : Nat} {s1 : PSt} {S S1 : CSt} {O : List Nat} (h : rch T key S S1) (h1 : simT T key lev s1 S1 O) : simT T key lev s1 S O := by
  obtain ⟨E1, R1, P, g1, g2⟩ := h1
  exact ⟨E1, R1, P, h.tr g1, g2⟩
theorem ct0_s {O : List Nat} (h : ct O = 0) : sT O = O := by
  cases O with
  | nil => rfl
  | cons x O =>
    rw [ct] at h
    split at h
    · omega
    · rename_i e
      rw [sT, if_neg e]
