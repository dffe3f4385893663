/-! 'lcmp' and the branch behind it, in one row -/
section PZE
theorem pz_cmpP {x y : Int64} (h : y < x) : lg_cmp x y = 1 := by simp [lg_cmp, h]
theorem pz_cmp0 (x : Int64) : lg_cmp x x = 0 := by simp [lg_cmp]
theorem pz_cmpN {x y : Int64} (h : ¬ y < x) (h2 : ¬ x = y) : lg_cmp x y = -1 := by simp [lg_cmp, h, h2]
theorem pz_tri (x y : Int64) : y < x ∨ x = y ∨ x < y := by
  rw [Int64.lt_iff_toInt_lt, Int64.lt_iff_toInt_lt, ← Int64.toInt_inj]
  omega
theorem pz_ltN {x y : Int64} (h : x < y) : ¬ y < x ∧ ¬ x = y ∧ x ≤ y ∧ ¬ y ≤ x := by
  rw [Int64.lt_iff_toInt_lt] at h
  rw [Int64.lt_iff_toInt_lt, Int64.le_iff_toInt_le, Int64.le_iff_toInt_le, ← Int64.toInt_inj]
  omega
variable {p : Program} {l : Launch} {e : Env} {R : Room} {s : State} {m : MethodId} {args : Array Value} {below : List Frame} {meth : Method} {c : Code} {H : Heap} {locs : List Loc} {cells slots : Nat} {Q : State → Prop}
variable {cc : ByteArray} {pc : Nat} {ls : Array Slot} {rest : List Value} {x y : Int64} {off : Int} {tgt : Nat}
theorem pz_lle (hexec : p.tables.exec = Jvm.exec) (hb : c.code = cc) (d1 : decode cc pc = .ok (.lcmp, 1)) (d2 : decode cc (pc + 1) = .ok (.ifCond .le off, 3)) (ht : ((pc + 1 : Nat) : Int) + off = (tgt : Int)) (kt : x ≤ y → W p l e R s m args below meth c H locs cells slots Q (F0 m tgt ls rest)) (kf : y < x → W p l e R s m args below meth c H locs cells slots Q (F0 m (pc + 1 + 3) ls rest)) : W p l e R s m args below meth c H locs cells slots Q (F0 m pc ls (.long y :: .long x :: rest)) := by
  refine W.lcmp hexec hb d1 (lv_if_le hexec hb d2 ht (fun h => kt ?_) (fun h => kf ?_))
  · rcases pz_tri x y with q | q | q
    · rw [pz_cmpP q] at h; exact absurd h (by decide)
    · subst q; exact Int64.le_refl x
    · exact (pz_ltN q).2.2.1
  · rcases pz_tri x y with q | q | q
    · exact q
    · subst q; rw [pz_cmp0] at h; exact absurd (by decide) h
    · rw [pz_cmpN (pz_ltN q).1 (pz_ltN q).2.1] at h; exact absurd (by decide) h
theorem pz_lgt (hexec : p.tables.exec = Jvm.exec) (hb : c.code = cc) (d1 : decode cc pc = .ok (.lcmp, 1)) (d2 : decode cc (pc + 1) = .ok (.ifCond .gt off, 3)) (ht : ((pc + 1 : Nat) : Int) + off = (tgt : Int)) (kt : y < x → W p l e R s m args below meth c H locs cells slots Q (F0 m tgt ls rest)) (kf : x ≤ y → W p l e R s m args below meth c H locs cells slots Q (F0 m (pc + 1 + 3) ls rest)) : W p l e R s m args below meth c H locs cells slots Q (F0 m pc ls (.long y :: .long x :: rest)) := by
  refine W.lcmp hexec hb d1 (lv_if_gt hexec hb d2 ht (fun h => kt ?_) (fun h => kf ?_))
  · rcases pz_tri x y with q | q | q
    · exact q
    · subst q; rw [pz_cmp0] at h; exact absurd h (by decide)
    · rw [pz_cmpN (pz_ltN q).1 (pz_ltN q).2.1] at h; exact absurd h (by decide)
  · rcases pz_tri x y with q | q | q
    · rw [pz_cmpP q] at h; exact absurd (by decide) h
    · subst q; exact Int64.le_refl x
    · exact (pz_ltN q).2.2.1
theorem pz_llt (hexec : p.tables.exec = Jvm.exec) (hb : c.code = cc) (d1 : decode cc pc = .ok (.lcmp, 1)) (d2 : decode cc (pc + 1) = .ok (.ifCond .lt off, 3)) (ht : ((pc + 1 : Nat) : Int) + off = (tgt : Int)) (kt : x < y → W p l e R s m args below meth c H locs cells slots Q (F0 m tgt ls rest)) (kf : y ≤ x → W p l e R s m args below meth c H locs cells slots Q (F0 m (pc + 1 + 3) ls rest)) : W p l e R s m args below meth c H locs cells slots Q (F0 m pc ls (.long y :: .long x :: rest)) := by
  refine W.lcmp hexec hb d1 (lv_if_lt hexec hb d2 ht (fun h => kt ?_) (fun h => kf ?_))
  · rcases pz_tri x y with q | q | q
    · rw [pz_cmpP q] at h; exact absurd h (by decide)
    · subst q; rw [pz_cmp0] at h; exact absurd h (by decide)
    · exact q
  · rcases pz_tri x y with q | q | q
    · exact (pz_ltN q).2.2.1
    · subst q; exact Int64.le_refl x
    · rw [pz_cmpN (pz_ltN q).1 (pz_ltN q).2.1] at h; exact absurd (by decide) h
theorem pz_lge (hexec : p.tables.exec = Jvm.exec) (hb : c.code = cc) (d1 : decode cc pc = .ok (.lcmp, 1)) (d2 : decode cc (pc + 1) = .ok (.ifCond .ge off, 3)) (ht : ((pc + 1 : Nat) : Int) + off = (tgt : Int)) (kt : y ≤ x → W p l e R s m args below meth c H locs cells slots Q (F0 m tgt ls rest)) (kf : x < y → W p l e R s m args below meth c H locs cells slots Q (F0 m (pc + 1 + 3) ls rest)) : W p l e R s m args below meth c H locs cells slots Q (F0 m pc ls (.long y :: .long x :: rest)) := by
  refine W.lcmp hexec hb d1 (lv_if_ge hexec hb d2 ht (fun h => kt ?_) (fun h => kf ?_))
  · rcases pz_tri x y with q | q | q
    · exact (pz_ltN q).2.2.1
    · subst q; exact Int64.le_refl x
    · rw [pz_cmpN (pz_ltN q).1 (pz_ltN q).2.1] at h; exact absurd h (by decide)
  · rcases pz_tri x y with q | q | q
    · rw [pz_cmpP q] at h; exact absurd (by decide) h
    · subst q; rw [pz_cmp0] at h; exact absurd (by decide) h
    · exact q
theorem pz_lne (hexec : p.tables.exec = Jvm.exec) (hb : c.code = cc) (d1 : decode cc pc = .ok (.lcmp, 1)) (d2 : decode cc (pc + 1) = .ok (.ifCond .ne off, 3)) (ht : ((pc + 1 : Nat) : Int) + off = (tgt : Int)) (kt : ¬ x = y → W p l e R s m args below meth c H locs cells slots Q (F0 m tgt ls rest)) (kf : x = y → W p l e R s m args below meth c H locs cells slots Q (F0 m (pc + 1 + 3) ls rest)) : W p l e R s m args below meth c H locs cells slots Q (F0 m pc ls (.long y :: .long x :: rest)) := by
  refine W.lcmp hexec hb d1 (lv_if_ne hexec hb d2 ht (fun h => kt ?_) (fun h => kf ?_))
  · rintro rfl
    rw [pz_cmp0] at h
    exact h rfl
  · rcases pz_tri x y with q | q | q
    · rw [pz_cmpP q] at h; exact absurd h (by decide)
    · exact q
    · rw [pz_cmpN (pz_ltN q).1 (pz_ltN q).2.1] at h; exact absurd h (by decide)
theorem pz_leq (hexec : p.tables.exec = Jvm.exec) (hb : c.code = cc) (d1 : decode cc pc = .ok (.lcmp, 1)) (d2 : decode cc (pc + 1) = .ok (.ifCond .eq off, 3)) (ht : ((pc + 1 : Nat) : Int) + off = (tgt : Int)) (kt : x = y → W p l e R s m args below meth c H locs cells slots Q (F0 m tgt ls rest)) (kf : ¬ x = y → W p l e R s m args below meth c H locs cells slots Q (F0 m (pc + 1 + 3) ls rest)) : W p l e R s m args below meth c H locs cells slots Q (F0 m pc ls (.long y :: .long x :: rest)) := by
  refine W.lcmp hexec hb d1 (lv_if_eq hexec hb d2 ht (fun h => kt ?_) (fun h => kf ?_))
  · rcases pz_tri x y with q | q | q
    · rw [pz_cmpP q] at h; exact absurd h (by decide)
    · exact q
    · rw [pz_cmpN (pz_ltN q).1 (pz_ltN q).2.1] at h; exact absurd h (by decide)
  · rintro rfl
    rw [pz_cmp0] at h
    exact h rfl
end PZE
