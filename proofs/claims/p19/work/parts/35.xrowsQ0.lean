section XRQ0
variable {p : Program} {l : Launch} {e : Env} {R : Room} {s : State} {m : MethodId} {args : Array Value} {below : List Frame} {meth : Method} {cd : Code} {H : Heap} {locs : List Loc} {cells slots : Nat} {Q : State → Prop}
variable {pc : Nat} {ls : Array Slot} {rest : List Value} {A0 : Nat → Prop} {H0 : Heap} {D : va_G} {cc : ByteArray} {sk : Value} {a : Nat → Nat} {t : Nat → ClassId} {i : Nat → Int32} {q : Int64} {c : Nat → Nat → Int32} {d : Nat → Nat → Int64} {Ts : List Cond} {own : String} {idx : Nat}
theorem xgQ0_BP_world (hx : p.tables.exec = Jvm.exec) (hb : cd.code = cc) (hts : ∀ w ∈ Ts, w.before args s = true) (hin : ∀ w ∈ wsX60, w ∈ Ts) (hown : s.vm.findClass own = some m.cls) (hK : va_K D vwCl (xtQ0 t) s) (hP : va_P D vwCl (xwQ0 sk a t i q c d) H) (hlink : (Cond.fieldLink own idx "TalePlay$Scene" "world" "LTalePlay$World;").before args s = true) (hdg : decode cc pc = .ok (.getfield idx, 3)) (kk : W p l e R s m args below meth cd H locs cells slots Q (F0 m (pc + 3) ls (.ref (a 104) :: rest))) : W p l e R s m args below meth cd H locs cells slots Q (F0 m pc ls (.ref (a 126) :: rest)) := va_get (D := D) (ci := 6) (v := .ref (a 104)) (C := RX6) (T := TX6) (N := 2) hx hb hts hin hown hK hP 0 rfl rfl 0 (by decide +kernel) hlink (fun _ h9 => h9) rfl hdg kk
theorem xuQ0_W (h : va_P D vwCl (xwQ0 sk a t i q c d) H) : va_P D vwCl (xwW sk a t i q c d) H := h.sub (ws' := xwW sk a t i q c d) [2, 3, 4, 5, 6, 7] rfl
theorem xkQ0_W (h : va_K D vwCl (xtQ0 t) s) : va_K D vwCl (xtW t) s := h.sub (tys' := xtW t) [1, 2, 3, 4, 5] rfl
theorem xuQ0_P0 (h : va_P D vwCl (xwQ0 sk a t i q c d) H) : va_P D vwCl (xwP0 sk a t i q c d) H := h.sub (ws' := xwP0 sk a t i q c d) [0, 1] rfl
theorem xkQ0_P0 (h : va_K D vwCl (xtQ0 t) s) : va_K D vwCl (xtP0 t) s := h.sub (tys' := xtP0 t) [0] rfl
end XRQ0

