/-! ===== constants of Sort are told apart ===== -/
def kEi (E : Nat → Nat) : Prop := ∀ i j : Nat, i < 33 → j < 33 → E i = E j → i = j
theorem kEi.eq {E : Nat → Nat} (h : kEi E) {a b : Int32} (ha : zI 0 32 a) (hb : zI 0 32 b) : E (zn a) = E (zn b) ↔ a = b := by
  obtain ⟨e1, h1⟩ := ha.ix (n := 33) (by decide)
  obtain ⟨e2, h2⟩ := hb.ix (n := 33) (by decide)
  exact ⟨fun e => by rw [e1, e2, h _ _ h1 h2 e], fun e => by rw [e]⟩
section CX
variable {p : Program} {l : Launch} {e : Env} {R : Room} {s : State} {m : MethodId} {args : Array Value} {below : List Frame} {meth : Method} {c : Code} {H : Heap} {locs : List Loc} {cells slots : Nat} {Q : State → Prop}
variable {cc : ByteArray} {pc : Nat} {ls : Array Slot} {rest : List Value} {E : Nat → Nat}
theorem cgenSE {x : Int32} {lo hi : Int} (h : zI lo hi x) (k : ∀ v : Int32, v = x → zI lo hi v → W p l e R s m args below meth c H locs cells slots Q (F0 m pc ls (.ref (E (zn v)) :: rest))) : W p l e R s m args below meth c H locs cells slots Q (F0 m pc ls (.ref (E (zn x)) :: rest)) := k x rfl h
theorem cxacmp_eq (hE : kEi E) {a b : Int32} (ha : zI 0 32 a) (hb2 : zI 0 32 b) (hx : p.tables.exec = Jvm.exec) (hb : c.code = cc) {off : Int} {tgt : Nat} (hdg : decode cc pc = .ok (.if_acmp .eq off, 3)) (ht : (pc : Int) + off = (tgt : Int))
    (kt : a = b → W p l e R s m args below meth c H locs cells slots Q (F0 m tgt ls rest)) (kf : ¬ a = b → W p l e R s m args below meth c H locs cells slots Q (F0 m (pc + 3) ls rest)) : W p l e R s m args below meth c H locs cells slots Q (F0 m pc ls (.ref (E (zn b)) :: .ref (E (zn a)) :: rest)) :=
  lv_acmp_eq (rx := some (E (zn a))) (ry := some (E (zn b))) hx hb hdg ht (fun e => kt ((hE.eq ha hb2).mp (Option.some.inj e))) (fun e => kf (fun e2 => e (congrArg some ((hE.eq ha hb2).mpr e2))))
theorem cxacmp_ne (hE : kEi E) {a b : Int32} (ha : zI 0 32 a) (hb2 : zI 0 32 b) (hx : p.tables.exec = Jvm.exec) (hb : c.code = cc) {off : Int} {tgt : Nat} (hdg : decode cc pc = .ok (.if_acmp .ne off, 3)) (ht : (pc : Int) + off = (tgt : Int))
    (kt : ¬ a = b → W p l e R s m args below meth c H locs cells slots Q (F0 m tgt ls rest)) (kf : a = b → W p l e R s m args below meth c H locs cells slots Q (F0 m (pc + 3) ls rest)) : W p l e R s m args below meth c H locs cells slots Q (F0 m pc ls (.ref (E (zn b)) :: .ref (E (zn a)) :: rest)) :=
  lv_acmp_ne (rx := some (E (zn a))) (ry := some (E (zn b))) hx hb hdg ht (fun e => kt (fun e2 => e (congrArg some ((hE.eq ha hb2).mpr e2)))) (fun e => kf ((hE.eq ha hb2).mp (Option.some.inj e)))
end CX
