/-! ===== what comes out, as a function: its words ===== -/
def zlet {α β : Type} (x : α) (K : α → β) : β := K x
theorem zletE {α β : Type} {X : β} {x v : α} {K : α → β} (e : v = x) (h : X = zlet x K) : X = K v := by subst e; exact h
def zif {β : Type} (c : Prop) [Decidable c] (a b : β) : β := if c then a else b
def zifn {β : Type} (c : Prop) [Decidable c] (a b : β) : β := if c then b else a
theorem zifT {β : Type} {X a b : β} {c : Prop} [Decidable c] (h : c) (e : X = zif c a b) : X = a := e.trans (if_pos h)
theorem zifF {β : Type} {X a b : β} {c : Prop} [Decidable c] (h : ¬ c) (e : X = zif c a b) : X = b := e.trans (if_neg h)
theorem zifnT {β : Type} {X a b : β} {c : Prop} [Decidable c] (h : ¬ c) (e : X = zifn c a b) : X = a := e.trans (if_neg h)
theorem zifnF {β : Type} {X a b : β} {c : Prop} [Decidable c] (h : c) (e : X = zifn c a b) : X = b := e.trans (if_pos h)
def zc_vr {α β : Type} (o : α × zRr) (K : α → zRr → β) : β := K o.1 o.2
def zc_rq {β : Type} (o : zRr × zRq) (K : zRr → zRq → β) : β := K o.1 o.2
def zc_vq {α β : Type} (o : α × zRq) (K : α → zRq → β) : β := K o.1 o.2
def zc_vrq {α β : Type} (o : α × zRr × zRq) (K : α → zRr → zRq → β) : β := K o.1 o.2.1 o.2.2
theorem zc_vrE {α β : Type} {X : β} {o : α × zRr} {v : α} {r : zRr} {K : α → zRr → β} (e : (v, r) = o) (h : X = zc_vr o K) : X = K v r := by subst e; exact h
theorem zc_rqE {β : Type} {X : β} {o : zRr × zRq} {r : zRr} {q : zRq} {K : zRr → zRq → β} (e : (r, q) = o) (h : X = zc_rq o K) : X = K r q := by subst e; exact h
theorem zc_vqE {α β : Type} {X : β} {o : α × zRq} {v : α} {q : zRq} {K : α → zRq → β} (e : (v, q) = o) (h : X = zc_vq o K) : X = K v q := by subst e; exact h
theorem zc_vrqE {α β : Type} {X : β} {o : α × zRr × zRq} {v : α} {r : zRr} {q : zRq} {K : α → zRr → zRq → β} (e : (v, r, q) = o) (h : X = zc_vrq o K) : X = K v r q := by subst e; exact h
theorem zletQ {α β : Type} (x : α) (K : α → β) : zlet x K = K x := (Eq.refl (zlet x K)).trans (Eq.refl (K x))
theorem zifQ {β : Type} (c : Prop) [Decidable c] (a b : β) : zif c a b = if c then a else b := (Eq.refl (zif c a b)).trans (Eq.refl _)
theorem zifnQ {β : Type} (c : Prop) [Decidable c] (a b : β) : zifn c a b = if c then b else a := (Eq.refl (zifn c a b)).trans (Eq.refl _)
theorem zc_vrQ {α β : Type} (o : α × zRr) (K : α → zRr → β) : zc_vr o K = K o.1 o.2 := (Eq.refl (zc_vr o K)).trans (Eq.refl _)
theorem zc_rqQ {β : Type} (o : zRr × zRq) (K : zRr → zRq → β) : zc_rq o K = K o.1 o.2 := (Eq.refl (zc_rq o K)).trans (Eq.refl _)
theorem zc_vrqQ {α β : Type} (o : α × zRr × zRq) (K : α → zRr → zRq → β) : zc_vrq o K = K o.1 o.2.1 o.2.2 := (Eq.refl (zc_vrq o K)).trans (Eq.refl _)
