section NM
variable {p : Program} {l : Launch} {e : Env} {R : Room} {s : State} {m : MethodId} {args : Array Value} {below : List Frame} {meth : Method} {c : Code} {H : Heap} {locs : List Loc} {cells slots mc ms : Nat} {Q : State → Prop}
variable {pc : Nat} {ls : Array Slot} {rest st0 : List Value} {av : Array Value} {A0 : Nat → Prop} {H0 : Heap} {D : va_G} {wc wr : va_W}
theorem law_newM {S : Type} {post : S → Prop} {w2 : S → va_W} {t2 : S → List (ClassId × FieldType)} (hr : va_Run p l e R s m args below meth c H locs cells slots mc ms (F0 m pc ls st0) rest (va_Qv post (oC D (va_A wc H.size) w2 t2) (va_A wc H.size) av) (va_A wc H.size)) (hS : va_S A0 H0 H locs) (hA : ∀ q, H0.size ≤ q → A0 q) (hP : va_P D vwCl (wr ++ wc) H) (hD : va_D A0 (wr ++ wc))
    (kk : ∀ (u : S) (H1 : Heap) (locs1 : List Loc), va_K D vwCl (t2 u) s → va_P D vwCl (wr ++ w2 u) H1 → va_D A0 (wr ++ w2 u) → va_S A0 H0 H1 locs1 → W p l e R s m args below meth c H1 locs1 (cells + mc) (slots + ms) Q (F0 m (pc + 3) ls rest)) : W p l e R s m args below meth c H locs cells slots Q (F0 m pc ls st0) := by
  have hFc := al_free (ws := wc) (vD_r hD) hS hA
  refine va_callv hr hS (fun q _ h => hFc q h) hFc (fun u t H1 locs1 ht hvm hw hB _ hk hS1 => ?_)
  obtain ⟨hP1, hK1, hD1⟩ := hB
  rw [ht] at hP1
  obtain ⟨hPj, hDj⟩ := ap_r hP hD hk hFc hP1 hD1
  exact kk u H1 locs1 (va_K.moved hvm.symm hK1) hPj hDj hS1
end NM

