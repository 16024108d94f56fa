set_option maxHeartbeats 4000000 in
set_option maxRecDepth 100000 in
/-- THE LAW, from its entry -/
theorem whole_start {p : Program} {e : Env} {s : State} {m : MethodId} {below : List Frame} {meth : Method} {c : Code} (l : Launch) {b L : Nat} {xs : Nat → Int32} (hL : L ≤ 3584) (C0 : lw_At p s m meth c b L xs) : W p l e room_1 s m #[Value.ref b] below meth c s.heap [] 0 0 (lw_Z below #[Value.ref b] s) (entryFrame m ([Value.ref b] : List Value).toArray 4) := by
  obtain ⟨hx, hb, hr, hml, hown, hts0, hX, hbl, hlocks, hgv⟩ := id C0
  have hb : c.code = cL_law := hb
  have hown : s.vm.findClass RL = some m.cls := hown
  have hts : ∀ w ∈ wm_law, w.before #[Value.ref b] s = true := fun w h => hts0 w (wm_law_in w h)
  have hN : xN s := ⟨va_Nw.of rfl (hts0 (.methodLinkNest RX0 124 yX2_weighBy "TalePlay") (by decide +kernel)), va_Nw.of rfl (hts0 (.methodLinkNest RX0 130 yX2_weighThose "TalePlay") (by decide +kernel)), va_Nw.of rfl (hts0 (.methodLinkNest RX1 68 yX11_isBelow "TalePlay") (by decide +kernel)), va_Nw.of rfl (hts0 (.methodLinkNest RX1 110 yX11_oneIf "TalePlay") (by decide +kernel)), va_Nw.of rfl (hts0 (.methodLinkNest RX7 157 yX11_deedOf "TalePlay") (by decide +kernel)), va_Nw.of rfl (hts0 (.methodLinkNest RX9 101 yX11_isBelow "TalePlay") (by decide +kernel)), va_Nw.of rfl (hts0 (.methodLinkNest RX9 128 yX11_deedOf "TalePlay") (by decide +kernel)), va_Nw.of rfl (hts0 (.methodLinkNest RX9 146 yX11_oneIf "TalePlay") (by decide +kernel))⟩
  have hA : ∀ q : Nat, s.heap.size ≤ q → (fun q : Nat => s.heap.size ≤ q) q := fun _ h => h
  have hbA : ¬ (fun q : Nat => s.heap.size ≤ q) b := Nat.not_le.mpr hbl
  have hfl := flat_of_before _ hgv
  have hnA : ∀ a : Nat, a < s.heap.size → ¬ (ro s.heap.size) a := fun a h q => absurd h (Nat.not_lt.mpr q)
  obtain ⟨B, hB, hT⟩ := va_Tof (tm := (.static "TalePlay$Bulks" "BODIES" "[I")) (ty := .int) (N := 6) (f := fun j => .int (bodV j)) (A := ro s.heap.size) (by decide +kernel) (hfl (.arrayOf (.static "TalePlay$Bulks" "BODIES" "[I") .int) (by decide +kernel)) (va_eqt (z := 6) (hfl (.eq (.length (.static "TalePlay$Bulks" "BODIES" "[I")) (.int 6)) (by decide +kernel))) (fun j hj => by
    rcases (show j = 0 ∨ j = 1 ∨ j = 2 ∨ j = 3 ∨ j = 4 ∨ j = 5 by omega) with rfl | rfl | rfl | rfl | rfl | rfl
    · exact va_eqt (z := 0) (hfl (.eq (.elem (.static "TalePlay$Bulks" "BODIES" "[I") (.int 0)) (.int 0)) (by decide +kernel))
    · exact va_eqt (z := 1) (hfl (.eq (.elem (.static "TalePlay$Bulks" "BODIES" "[I") (.int 1)) (.int 1)) (by decide +kernel))
    · exact va_eqt (z := 4) (hfl (.eq (.elem (.static "TalePlay$Bulks" "BODIES" "[I") (.int 2)) (.int 4)) (by decide +kernel))
    · exact va_eqt (z := 2) (hfl (.eq (.elem (.static "TalePlay$Bulks" "BODIES" "[I") (.int 3)) (.int 2)) (by decide +kernel))
    · exact va_eqt (z := 3) (hfl (.eq (.elem (.static "TalePlay$Bulks" "BODIES" "[I") (.int 4)) (.int 3)) (by decide +kernel))
    · exact va_eqt (z := 5) (hfl (.eq (.elem (.static "TalePlay$Bulks" "BODIES" "[I") (.int 5)) (.int 5)) (by decide +kernel))) hnA
  have hZ : xZ B s s.heap := ⟨va_Zref (hts0 (.laysStatic "TalePlay$Bulks" "BODIES" "[I") (by decide +kernel)) (hts0 (.initialized "TalePlay$Bulks") (by decide +kernel)) hB hnA, hT⟩
  obtain ⟨cc0, iS0, hKn0⟩ := u_known (C := RX0) (T := TX0) (N := 7) (n := 7) hts wl_X0 (hts (.instantiable RX0 7) (wl_m55 _ (List.mem_of_getElem? (i := 7) rfl)))
  obtain ⟨cc1, iS1, hKn1⟩ := u_known (C := RX1) (T := TX1) (N := 15) (n := 15) hts wl_X1 (hts (.instantiable RX1 15) (wl_m56 _ (List.mem_of_getElem? (i := 9) rfl)))
  obtain ⟨cc2, iS2, hKn2⟩ := u_known (C := RX2) (T := TX2) (N := 4) (n := 4) hts wl_X2 (hts (.instantiable RX2 4) (wl_m56 _ (List.mem_of_getElem? (i := 10) rfl)))
  obtain ⟨cc3, iS3, hKn3⟩ := u_known (C := RX3) (T := TX3) (N := 4) (n := 4) hts wl_X3 (hts (.instantiable RX3 4) (wl_m56 _ (List.mem_of_getElem? (i := 11) rfl)))
  obtain ⟨cc4, iS4, hKn4⟩ := u_known (C := RX4) (T := TX4) (N := 3) (n := 3) hts wl_X4 (hts (.instantiable RX4 3) (wl_m56 _ (List.mem_of_getElem? (i := 12) rfl)))
  obtain ⟨cc5, iS5, hKn5⟩ := u_known (C := RX5) (T := TX5) (N := 11) (n := 11) hts wl_X5 (hts (.instantiable RX5 11) (wl_m56 _ (List.mem_of_getElem? (i := 13) rfl)))
  obtain ⟨cc6, iS6, hKn6⟩ := u_known (C := RX6) (T := TX6) (N := 2) (n := 2) hts wl_X6 (hts (.instantiable RX6 2) (wl_m54 _ (List.mem_of_getElem? (i := 17) rfl)))
  obtain ⟨cc7, iS7, hKn7⟩ := u_known (C := RX7) (T := TX7) (N := 15) (n := 15) hts wl_X7 (hts (.instantiable RX7 15) (wl_m54 _ (List.mem_of_getElem? (i := 10) rfl)))
  obtain ⟨cc8, iS8, hKn8⟩ := u_known (C := RX8) (T := TX8) (N := 6) (n := 6) hts wl_X8 (hts (.instantiable RX8 6) (wl_m55 _ (List.mem_of_getElem? (i := 0) rfl)))
  obtain ⟨cc9, iS9, hKn9⟩ := u_known (C := RX9) (T := TX9) (N := 11) (n := 11) hts wl_X9 (hts (.instantiable RX9 11) (wl_m56 _ (List.mem_of_getElem? (i := 14) rfl)))
  obtain ⟨cc10, iS10, hKn10⟩ := u_known (C := RX10) (T := TX10) (N := 7) (n := 7) hts wl_X10 (hts (.instantiable RX10 7) (wl_m56 _ (List.mem_of_getElem? (i := 15) rfl)))
  obtain ⟨cc11, iS11, hKn11⟩ := u_known (C := RX11) (T := TX11) (N := 11) (n := 11) hts wl_X11 (hts (.instantiable RX11 11) (wl_m56 _ (List.mem_of_getElem? (i := 16) rfl)))
  obtain ⟨cc12, iS12, hKn12⟩ := u_known (C := RX12) (T := TX12) (N := 69) (n := 69) hts wl_X12 (hts (.instantiable RX12 69) (wl_m56 _ (List.mem_of_getElem? (i := 17) rfl)))
  obtain ⟨D, hKc⟩ : ∃ D : va_G, ∀ (k : Nat) (q : vw_C), vwCl[k]? = some q → u_Kn s q.1 q.2.1 q.2.2 (D.1 k) (D.2 k) := by
    refine ⟨(fun k => match k with | 0 => cc0 | 1 => cc1 | 2 => cc2 | 3 => cc3 | 4 => cc4 | 5 => cc5 | 6 => cc6 | 7 => cc7 | 8 => cc8 | 9 => cc9 | 10 => cc10 | 11 => cc11 | _ => cc12, fun k => match k with | 0 => iS0 | 1 => iS1 | 2 => iS2 | 3 => iS3 | 4 => iS4 | 5 => iS5 | 6 => iS6 | 7 => iS7 | 8 => iS8 | 9 => iS9 | 10 => iS10 | 11 => iS11 | _ => iS12), ?_⟩
    intro k q hq
    match k, hq with
    | 0, hq => cases hq; exact hKn0
    | 1, hq => cases hq; exact hKn1
    | 2, hq => cases hq; exact hKn2
    | 3, hq => cases hq; exact hKn3
    | 4, hq => cases hq; exact hKn4
    | 5, hq => cases hq; exact hKn5
    | 6, hq => cases hq; exact hKn6
    | 7, hq => cases hq; exact hKn7
    | 8, hq => cases hq; exact hKn8
    | 9, hq => cases hq; exact hKn9
    | 10, hq => cases hq; exact hKn10
    | 11, hq => cases hq; exact hKn11
    | 12, hq => cases hq; exact hKn12
    | k + 13, hq => simp [vwCl] at hq
  have hS : va_S (fun q : Nat => s.heap.size ≤ q) s.heap s.heap [] := va_S.rf
  have hK : va_K D vwCl [] s := ⟨hKc, fun k q h => by simp at h⟩
  have hP : va_P D vwCl [] s.heap := fun k q h => by simp at h
  have hD : va_D (fun q : Nat => s.heap.size ≤ q) [] := ⟨fun i j p q h => by simp at h, fun k q h => by simp at h⟩
  have hl := lv_entry ([.ref b]) (n := 4) (Nat.le_of_ble_eq_true rfl)
  rw [lg_entry_eq]
  generalize (lg_sl ([.ref b]) ++ List.replicate (4 - (lg_sl ([.ref b])).length) Slot.unset).toArray = ls at hl ⊢
  have hl : lv_has ls 4 [(0, .ref b)] := hl
  refine va_new (ci := 11) (fs := [.null, .null, .null, .null, .null, .null, .null, .null, .null, .int 0, .long 0]) (C := RX11) (T := TX11) (N := 11) hx hb hts wl_X11 tyX11 tyX11_ok hown (hts (.classLink RL 7 RX11) (wl_m56 _ (List.mem_of_getElem? (i := 18) rfl))) (hts (.instantiable RX11 11) (wl_m56 _ (List.mem_of_getElem? (i := 16) rfl))) (hts (.initialized RX11) (wl_m0 _ (List.mem_of_getElem? (i := 3) rfl))) hK hP hD hS hA rfl (by decide +kernel) (Nat.le_of_ble_eq_true rfl) (Nat.le_of_ble_eq_true rfl) dL_law_0 (fun x0 H hP hD hS => ?_)
  refine W.widen (k := 1) (n := 11) (Nat.le_of_ble_eq_true rfl) (Nat.le_of_ble_eq_true rfl) ?_
  refine lv_dup hx hb dL_law_3 rfl ?_
  have hPx : va_P D vwCl [(x0, .inr (11, [.null, .null, .null, .null, .null, .null, .null, .null, .null, .int 0, .long 0]))] H := hP
  have hDx : va_D (fun q : Nat => s.heap.size ≤ q) [(x0, .inr (11, [.null, .null, .null, .null, .null, .null, .null, .null, .null, .int 0, .long 0]))] := hD
  refine rw_callv (wr := []) (va_runI (As := []) (rest := [.ref x0]) ⟨hx, hb, hml, hown, hts⟩ (k_i_X11_init l D H.size x0) (cwI 0 hts gm_law_i_X11_init_9 rfl rfl rfl (hts (.initialized RX11) (wl_m0 _ (List.mem_of_getElem? (i := 3) rfl))) (hts (.methodLink RL 9 yX11_init) (wl_m58 _ (List.mem_of_getElem? (i := 22) rfl))) (hts (.instanceMethod yX11_init) (wl_m58 _ (List.mem_of_getElem? (i := 23) rfl))) rfl (by decide +kernel) ⟨Nat.le_of_ble_eq_true rfl, Nat.le_of_ble_eq_true rfl⟩) (pB_S hK hPx hDx) rfl rfl hl.1 rfl (lv_room (Nat.le_of_ble_eq_true rfl)) dL_law_4 ⟨Nat.le_of_ble_eq_true rfl, Nat.le_of_ble_eq_true rfl⟩) hS hA hK hPx hDx [0] [] rfl rfl (by decide +kernel) (by decide +kernel) (fun u H locs hw hK2 hP hD hS => ?_)
  obtain ⟨a0, t⟩ := u
  refine W.widen (k := 51) (n := 4342) (Nat.le_of_ble_eq_true rfl) (Nat.le_of_ble_eq_true rfl) ?_
  obtain ⟨a, ha0, haB, hPa, hDa⟩ : ∃ a : Nat → Nat, a 100 = x0 ∧ a 186 = B ∧ va_P D vwCl (xwT .null a t i0X 0 c0X d0X) H ∧ va_D (fun q : Nat => s.heap.size ≤ q) (xwT .null a t i0X 0 c0X d0X) := ⟨(fun k => if k = 100 then x0 else if k = 186 then B else a0 k), rfl, rfl, hP, hD⟩
  subst ha0 haB
  have hP := hPa
  have hD := hDa
  have hKT : va_K D vwCl (xtT t) s := hK2
  refine lv_astore_n (lv' := [(1, .ref (a 100)), (0, .ref b)]) hx hb dL_law_7 rfl hl (by decide +kernel) rfl (fun ls hl => ?_)
  refine va_new (ci := 12) (fs := [.int 0, .null, .int 0, .null, .null, .int 0, .null, .null, .int 0, .null, .null, .null, .null, .null, .null, .int 0, .int 0, .int 0, .int 0, .int 0, .null, .null, .int 0, .null, .null, .null, .null, .int 0, .null, .null, .null, .null, .null, .int 0, .null, .int 0, .int 0, .long 0, .null, .null, .int 0, .int 0, .int 0, .null, .null, .null, .null, .null, .null, .null, .int 0, .null, .null, .null, .null, .null, .null, .int 0, .int 0, .int 0, .null, .null, .null, .null, .int 0, .null, .null, .null, .null]) (C := RX12) (T := TX12) (N := 69) hx hb hts wl_X12 tyX12 tyX12_ok hown (hts (.classLink RL 10 RX12) (wl_m59 _ (List.mem_of_getElem? (i := 0) rfl))) (hts (.instantiable RX12 69) (wl_m56 _ (List.mem_of_getElem? (i := 17) rfl))) (hts (.initialized RX12) (wl_m0 _ (List.mem_of_getElem? (i := 22) rfl))) hK hP hD hS hA rfl (by decide +kernel) (Nat.le_of_ble_eq_true rfl) (Nat.le_of_ble_eq_true rfl) dL_law_8 (fun o H hP hD hS => ?_)
  refine W.widen (k := 52) (n := 4411) (Nat.le_of_ble_eq_true rfl) (Nat.le_of_ble_eq_true rfl) ?_
  refine lv_dup hx hb dL_law_11 rfl ?_
  have hPc := vP_r hP
  have hDc := vD_r hD
  have hKe : va_K D vwCl [] s := hK
  refine law_newM (wr := xwT .null a t i0X 0 c0X d0X) (va_runI (As := []) (rest := [.ref o]) ⟨hx, hb, hml, hown, hts⟩ (k_i_X12_init l D H.size o) (cwI 0 hts gm_law_i_X12_init_12 rfl rfl rfl (hts (.initialized RX12) (wl_m0 _ (List.mem_of_getElem? (i := 22) rfl))) (hts (.methodLink RL 12 yX12_init) (wl_m59 _ (List.mem_of_getElem? (i := 4) rfl))) (hts (.instanceMethod yX12_init) (wl_m59 _ (List.mem_of_getElem? (i := 5) rfl))) rfl (by decide +kernel) ⟨Nat.le_of_ble_eq_true rfl, Nat.le_of_ble_eq_true rfl⟩) (pB_S hKe hPc hDc) rfl rfl hl.1 rfl (lv_room (Nat.le_of_ble_eq_true rfl)) dL_law_12 ⟨Nat.le_of_ble_eq_true rfl, Nat.le_of_ble_eq_true rfl⟩) hS hA hP hD (fun u H locs hKM hP hD hS => ?_)
  obtain ⟨am, tm⟩ := u
  refine W.widen (k := 98) (n := 48488) (Nat.le_of_ble_eq_true rfl) (Nat.le_of_ble_eq_true rfl) ?_
  refine lv_astore_n (lv' := [(2, .ref o), (1, .ref (a 100)), (0, .ref b)]) hx hb dL_law_15 rfl hl (by decide +kernel) rfl (fun ls hl => ?_)
  refine lv_iconst (v := 0) hx hb dL_law_16 (by decide +kernel) ?_
  refine lv_istore_n (lv' := [(3, .int 0), (2, .ref o), (1, .ref (a 100)), (0, .ref b)]) hx hb dL_law_17 rfl hl (by decide +kernel) rfl (fun ls hl => ?_)
  exact law_loopN hr hlocks hx hb hml hown hts hX hbl hL hN hZ hKT hKM 3585 0 i0X 0 c0X d0X i0M 0 c0M d0M (by decide +kernel) (by decide +kernel) (by decide +kernel) H locs ls LI0 hP hD hS hl

