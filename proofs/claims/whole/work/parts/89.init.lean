-- INIT: Object.<init>, and cells that are made
section ZOi
variable {G : zG} {mi : zM} {rm : Room} {Q : List Frame → Array Value → State → State → Prop} {pc n : Nat} {lv : List (Option Value)} {st : List Value} {M : zMem} {X : zX} {cn : Nat × Nat}
theorem j_oinit {d C N i a : Nat} (hd : decode (zc mi) pc = .ok (.invokespecial i, 3)) (hn : pc + 3 = n) (hw : Cond.methodLink mi.1.cls i objectInit ∈ zT) (hr : 1 ≤ d) (hcat : (st.map fun v => v.category).sum ≤ 8) (k : zAt G mi (zRm d C N) Q n lv st M X cn) : zAt G mi (zRm d C N) Q pc lv (.ref a :: st) M X cn := by
  subst hn
  intro p e s m args below meth c H locs ls E hP hS hl
  have hts := E.2.2.2.2.2.2.2.1
  refine W.objInit (a := zra G a) (rest := st.map (zv G)) E.1 E.2.1 E.2.2.2.2.2.2.1 (hts _ hw) (hts _ oi_in) (hts _ oi_code) rfl (hl.1.trans E.2.2.1.symm) rfl hd hr ?_ (k p e s m args below meth c H locs ls E hP hS hl)
  rw [zcat]
  show _ + _ + 12 ≤ 40 * d
  show 0 + _ + 12 ≤ 40 * d
  omega
end ZOi
