/-! contracts of methods that leave the world as it is; answers that are true or false; methods that throw -/
abbrev PI (l : Launch) (G : cx_G) (y : MethodName) (ws : List Cond) (fr lo : Nat) (as : List Value) (f : Wd) (Φ : Int32 → Prop) : Prop :=
  Met l y ws { frames := fr, cells := 0, slots := 0, locals := lo } (va_Pc as (Pin G f)) (va_Qi (fun r (_ : Unit) => Φ r) (fun _ t => hp G f t.heap) (gA G)) 0 0 (gA G)
abbrev PL (l : Launch) (G : cx_G) (y : MethodName) (ws : List Cond) (fr lo : Nat) (as : List Value) (f : Wd) (Φ : Int64 → Prop) : Prop :=
  Met l y ws { frames := fr, cells := 0, slots := 0, locals := lo } (va_Pc as (Pin G f)) (va_Ql (fun r (_ : Unit) => Φ r) (fun _ t => hp G f t.heap) (gA G)) 0 0 (gA G)
abbrev PR (l : Launch) (G : cx_G) (y : MethodName) (ws : List Cond) (fr lo : Nat) (as : List Value) (f : Wd) (Φ : Nat → Prop) : Prop :=
  Met l y ws { frames := fr, cells := 0, slots := 0, locals := lo } (va_Pc as (Pin G f)) (va_Qr (fun u : Nat => Φ u) (fun u a t => a = u ∧ hp G f t.heap) (gA G)) 0 0 (gA G)
abbrev PV (l : Launch) (G : cx_G) (y : MethodName) (ws : List Cond) (fr lo : Nat) (as : List Value) (f : Wd) (Φ : Prop) : Prop :=
  Met l y ws { frames := fr, cells := 0, slots := 0, locals := lo } (va_Pc as (Pin G f)) (va_Qv (fun _ : Unit => Φ) (fun _ t => hp G f t.heap) (gA G)) 0 0 (gA G)
def b2i (b : Bool) : Int32 := if b = true then 1 else 0
theorem b2i_nar (b : Bool) : narrow .boolean (.int (b2i b)) = .int (b2i b) := by cases b <;> rfl
theorem b2i_1 {b : Bool} (h : b = true) : b2i b = 1 := by rw [h]; rfl
theorem b2i_0 {b : Bool} (h : b = false) : b2i b = 0 := by rw [h]; rfl
theorem b2i_t {p : Prop} [Decidable p] (h : p) : (1 : Int32) = b2i (decide p) := by simp [b2i, h]
theorem b2i_f {p : Prop} [Decidable p] (h : ¬ p) : (0 : Int32) = b2i (decide p) := by simp [b2i, h]
section CXM
variable {G : cx_G} {p : Program} {l : Launch} {e : Env} {R : Room} {s : State} {m : MethodId} {args : Array Value} {below : List Frame} {meth : Method} {c : Code} {H : Heap} {locs : List Loc} {cells slots : Nat} {Q : State → Prop}
variable {cc : ByteArray} {nL : Nat} {own : String} {Ts : List Cond} {pc : Nat} {ls : Array Slot} {rest st : List Value} {f : Wd} {a t mc ms : Nat}
theorem call_ip {Φ : Int32 → Prop} {a : Array Value} (hr : va_Run p l e R s m args below meth c H locs cells slots 0 0 (F0 m pc ls st) rest (va_Qi (fun r (_ : Unit) => Φ r) (fun _ t => hp G f t.heap) (gA G) a) (gA G)) (S : cxS G s f H locs)
    (kk : ∀ (r : Int32) (H : Heap) (locs : List Loc), Φ r → cxS G s f H locs → W p l e R s m args below meth c H locs cells slots Q (F0 m (pc + 3) ls (.int r :: rest))) : W p l e R s m args below meth c H locs cells slots Q (F0 m pc ls st) :=
  va_calli hr S.2 (fun _ _ h => h) (fun _ h => h) (fun r u t H1 locs1 ht _ hΦ hB _ _ hS1 => kk r H1 locs1 hΦ ⟨by rw [← ht]; exact hB, hS1⟩)
theorem call_lp {Φ : Int64 → Prop} {a : Array Value} (hr : va_Run p l e R s m args below meth c H locs cells slots 0 0 (F0 m pc ls st) rest (va_Ql (fun r (_ : Unit) => Φ r) (fun _ t => hp G f t.heap) (gA G) a) (gA G)) (S : cxS G s f H locs)
    (kk : ∀ (r : Int64) (H : Heap) (locs : List Loc), Φ r → cxS G s f H locs → W p l e R s m args below meth c H locs cells slots Q (F0 m (pc + 3) ls (.long r :: rest))) : W p l e R s m args below meth c H locs cells slots Q (F0 m pc ls st) :=
  va_calll hr S.2 (fun _ _ h => h) (fun _ h => h) (fun r u t H1 locs1 ht _ hΦ hB _ _ hS1 => kk r H1 locs1 hΦ ⟨by rw [← ht]; exact hB, hS1⟩)
theorem call_vp {Φ : Prop} {a : Array Value} (hr : va_Run p l e R s m args below meth c H locs cells slots 0 0 (F0 m pc ls st) rest (va_Qv (fun _ : Unit => Φ) (fun _ t => hp G f t.heap) (gA G) a) (gA G)) (S : cxS G s f H locs)
    (kk : ∀ (H : Heap) (locs : List Loc), Φ → cxS G s f H locs → W p l e R s m args below meth c H locs cells slots Q (F0 m (pc + 3) ls rest)) : W p l e R s m args below meth c H locs cells slots Q (F0 m pc ls st) :=
  va_callv hr S.2 (fun _ _ h => h) (fun _ h => h) (fun u t H1 locs1 ht _ hΦ hB _ _ hS1 => kk H1 locs1 hΦ ⟨by rw [← ht]; exact hB, hS1⟩)
theorem call_rp {Φ : Nat → Prop} {a : Array Value} (hr : va_Run p l e R s m args below meth c H locs cells slots 0 0 (F0 m pc ls st) rest (va_Qr (fun u : Nat => Φ u) (fun u a t => a = u ∧ hp G f t.heap) (gA G) a) (gA G)) (S : cxS G s f H locs)
    (kk : ∀ (r : Nat) (H : Heap) (locs : List Loc), Φ r → cxS G s f H locs → W p l e R s m args below meth c H locs cells slots Q (F0 m (pc + 3) ls (.ref r :: rest))) : W p l e R s m args below meth c H locs cells slots Q (F0 m pc ls st) :=
  va_callr hr S.2 (fun _ _ h => h) (fun _ h => h) (fun u ra t H1 locs1 ht _ hΦ hB _ _ hS1 => by
    obtain ⟨rfl, hB⟩ := hB
    exact kk ra H1 locs1 hΦ ⟨by rw [← ht]; exact hB, hS1⟩)
theorem e_ip {Φ : Int32 → Prop} {v : Int32} (X : cxC G p l R c cc nL m meth s args own Ts) (hr : meth.sig.returnType = some .int) (S : cxS G s f H locs) (hdg : decode cc pc = .ok (.ireturn, 1)) (hΦ : Φ v) :
    W p l e R s m args below meth c H locs 0 0 (MQ below (va_Qi (fun r (_ : Unit) => Φ r) (fun _ t => hp G f t.heap) (gA G)) args s 0 0 (gA G)) (F0 m pc ls [.int v]) :=
  W.iret X.1 X.2.1 hr (fun t ht hW => ⟨⟨v, (), rfl, hΦ, hp_eq ht S.1⟩, S.2.F ht⟩) S.2.2.2 hdg X.2.2.2.2.2.2.2
theorem e_zp {Φ : Int32 → Prop} {v : Int32} (X : cxC G p l R c cc nL m meth s args own Ts) (hr : meth.sig.returnType = some .boolean) (S : cxS G s f H locs) (hdg : decode cc pc = .ok (.ireturn, 1)) (hn : narrow .boolean (.int v) = .int v) (hΦ : Φ v) :
    W p l e R s m args below meth c H locs 0 0 (MQ below (va_Qi (fun r (_ : Unit) => Φ r) (fun _ t => hp G f t.heap) (gA G)) args s 0 0 (gA G)) (F0 m pc ls [.int v]) :=
  W.zret X.1 X.2.1 hr hn (fun t ht hW => ⟨⟨v, (), rfl, hΦ, hp_eq ht S.1⟩, S.2.F ht⟩) S.2.2.2 hdg X.2.2.2.2.2.2.2
theorem e_lp {Φ : Int64 → Prop} {v : Int64} (X : cxC G p l R c cc nL m meth s args own Ts) (hr : meth.sig.returnType = some .long) (S : cxS G s f H locs) (hdg : decode cc pc = .ok (.lreturn, 1)) (hΦ : Φ v) :
    W p l e R s m args below meth c H locs 0 0 (MQ below (va_Ql (fun r (_ : Unit) => Φ r) (fun _ t => hp G f t.heap) (gA G)) args s 0 0 (gA G)) (F0 m pc ls [.long v]) :=
  W.lret X.1 X.2.1 hr (fun t ht hW => ⟨⟨v, (), rfl, hΦ, hp_eq ht S.1⟩, S.2.F ht⟩) S.2.2.2 hdg X.2.2.2.2.2.2.2
theorem e_vp {Φ : Prop} (X : cxC G p l R c cc nL m meth s args own Ts) (hr : meth.sig.returnType = none) (S : cxS G s f H locs) (hdg : decode cc pc = .ok (.return_, 1)) (hΦ : Φ) :
    W p l e R s m args below meth c H locs 0 0 (MQ below (va_Qv (fun _ : Unit => Φ) (fun _ t => hp G f t.heap) (gA G)) args s 0 0 (gA G)) (F0 m pc ls []) :=
  W.vret X.1 X.2.1 hr (fun t ht hW => ⟨⟨(), rfl, hΦ, hp_eq ht S.1⟩, S.2.F ht⟩) S.2.2.2 hdg X.2.2.2.2.2.2.2
theorem e_rp {Φ : Nat → Prop} {v : Nat} {rt : FieldType} (X : cxC G p l R c cc nL m meth s args own Ts) (hr : meth.sig.returnType = some rt) (hrt : (∃ n, rt = .object n) ∨ ∃ t, rt = .array t) (S : cxS G s f H locs) (hdg : decode cc pc = .ok (.areturn, 1)) (hΦ : Φ v) :
    W p l e R s m args below meth c H locs 0 0 (MQ below (va_Qr (fun u : Nat => Φ u) (fun u a t => a = u ∧ hp G f t.heap) (gA G)) args s 0 0 (gA G)) (F0 m pc ls [.ref v]) :=
  W.aret X.1 X.2.1 hr hrt (Or.inr ⟨v, rfl⟩) (fun t ht hW => ⟨⟨v, v, rfl, hΦ, rfl, hp_eq ht S.1⟩, S.2.F ht⟩) S.2.2.2 hdg X.2.2.2.2.2.2.2
/-- the top of the stack in other words -/
theorem r_toi {x y : Int32} (h : x = y) (k : W p l e R s m args below meth c H locs cells slots Q (F0 m pc ls (.int y :: rest))) : W p l e R s m args below meth c H locs cells slots Q (F0 m pc ls (.int x :: rest)) := by rw [h]; exact k
theorem r_tol {x y : Int64} (h : x = y) (k : W p l e R s m args below meth c H locs cells slots Q (F0 m pc ls (.long y :: rest))) : W p l e R s m args below meth c H locs cells slots Q (F0 m pc ls (.long x :: rest)) := by rw [h]; exact k
theorem r_eqB (X : cxC G p l R c cc nL m meth s args own Ts) {b : Bool} {off : Int} {tgt : Nat} (hdg : decode cc pc = .ok (.ifCond .eq off, 3)) (ht : (pc : Int) + off = (tgt : Int))
    (kt : b = false → W p l e R s m args below meth c H locs cells slots Q (F0 m tgt ls rest)) (kf : b = true → W p l e R s m args below meth c H locs cells slots Q (F0 m (pc + 3) ls rest)) : W p l e R s m args below meth c H locs cells slots Q (F0 m pc ls (.int (b2i b) :: rest)) :=
  lv_if_eq X.1 X.2.1 hdg ht (fun h => kt (by cases b; rfl; cases h)) (fun h => kf (by cases b; exact absurd rfl h; rfl))
theorem r_neB (X : cxC G p l R c cc nL m meth s args own Ts) {b : Bool} {off : Int} {tgt : Nat} (hdg : decode cc pc = .ok (.ifCond .ne off, 3)) (ht : (pc : Int) + off = (tgt : Int))
    (kt : b = true → W p l e R s m args below meth c H locs cells slots Q (F0 m tgt ls rest)) (kf : b = false → W p l e R s m args below meth c H locs cells slots Q (F0 m (pc + 3) ls rest)) : W p l e R s m args below meth c H locs cells slots Q (F0 m pc ls (.int (b2i b) :: rest)) :=
  lv_if_ne X.1 X.2.1 hdg ht (fun h => kt (by cases b; exact absurd rfl h; rfl)) (fun h => kf (by cases b; rfl; cases h))
theorem r_max (X : cxC G p l R c cc nL m meth s args own Ts) {index : Nat} (hlink : Cond.methodLink own index Lib.Math.max.name ∈ Ts) (hstat : Cond.static Lib.Math.max.name ∈ Ts) (hini : Cond.initialized "java/lang/Math" ∈ Ts) (hcode : Cond.code Lib.Math.max.name Lib.Math.max.code 2 (some .int) ∈ Ts) (hls : ls.size = nL)
    (hframes : 1 ≤ R.frames) (hlocals : (rest.map fun v => v.category).sum + 13 ≤ R.locals) (hc : cells ≤ R.cells) (hs : slots ≤ R.slots) {x y v : Int32} (hv : (if x < y then y else x) = v) (hdg : decode cc pc = .ok (.invokestatic index, 3))
    (kk : W p l e R s m args below meth c H locs cells slots Q (F0 m (pc + 3) ls (.int v :: rest))) : W p l e R s m args below meth c H locs cells slots Q (F0 m pc ls (.int y :: .int x :: rest)) := by
  subst hv
  exact va_mmax X.1 X.2.1 (by rw [X.2.2.1, hls]) X.2.2.2.1 (X.2.2.2.2.1 _ hlink) (X.2.2.2.2.1 _ hstat) (X.2.2.2.2.1 _ hini) (X.2.2.2.2.1 _ hcode) hframes hlocals hc hs hdg kk
theorem r_min (X : cxC G p l R c cc nL m meth s args own Ts) {index : Nat} (hlink : Cond.methodLink own index Lib.Math.min.name ∈ Ts) (hstat : Cond.static Lib.Math.min.name ∈ Ts) (hini : Cond.initialized "java/lang/Math" ∈ Ts) (hcode : Cond.code Lib.Math.min.name Lib.Math.min.code 2 (some .int) ∈ Ts) (hls : ls.size = nL)
    (hframes : 1 ≤ R.frames) (hlocals : (rest.map fun v => v.category).sum + 13 ≤ R.locals) (hc : cells ≤ R.cells) (hs : slots ≤ R.slots) {x y v : Int32} (hv : (if y < x then y else x) = v) (hdg : decode cc pc = .ok (.invokestatic index, 3))
    (kk : W p l e R s m args below meth c H locs cells slots Q (F0 m (pc + 3) ls (.int v :: rest))) : W p l e R s m args below meth c H locs cells slots Q (F0 m pc ls (.int y :: .int x :: rest)) := by
  subst hv
  exact va_mmin X.1 X.2.1 (by rw [X.2.2.1, hls]) X.2.2.2.1 (X.2.2.2.2.1 _ hlink) (X.2.2.2.2.1 _ hstat) (X.2.2.2.2.1 _ hini) (X.2.2.2.2.1 _ hcode) hframes hlocals hc hs hdg kk
end CXM
