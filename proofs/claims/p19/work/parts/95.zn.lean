set_option maxHeartbeats 4000000 in
set_option maxRecDepth 100000 in
theorem law_loopN {p : Program} {l : Launch} {e : Env} {s : State} {m : MethodId} {below : List Frame} {meth : Method} {cd : Code} {b L : Nat} {xs : Nat → Int32} {D : va_G} {a : Nat → Nat} {t : Nat → ClassId} {o : Nat} {am : Nat → Nat} {tm : Nat → ClassId} (hr : meth.sig.returnType = ret) (hlocks : meth.locks = false) (hx : p.tables.exec = Jvm.exec) (hb : cd.code = cL_law) (hml : cd.maxLocals = 4) (hown : s.vm.findClass RL = some m.cls) (hts : ∀ w ∈ wm_law, w.before #[Value.ref b] s = true) (hX : va_X b L xs s s.heap) (hbl : b < s.heap.size) (hL : L ≤ 3584) (hN : xN s) (hZ : xZ (a 186) s s.heap) (hKT : va_K D vwCl (xtT t) s) (hKM : va_K D vwCl (mT tm) s) : ∀ (fu : Nat) (x3 : Int32) (i : Nat → Int32) (q : Int64) (c : Nat → Nat → Int32) (d : Nat → Nat → Int64) (jm : Nat → Int32) (qm : Int64) (em : Nat → Nat → Int32) (dm : Nat → Nat → Int64), 0 ≤ x3.toInt → x3.toInt ≤ 3584 → (3584 - x3.toInt).toNat < fu → ∀ (H : Heap) (locs : List Loc) (ls : Array Slot), LI i c jm em → va_P D vwCl (xwT .null a t i q c d ++ (([] : va_W) ++ mW o am tm jm qm em dm)) H → va_D (fun q : Nat => s.heap.size ≤ q) (xwT .null a t i q c d ++ (([] : va_W) ++ mW o am tm jm qm em dm)) → va_S (fun q : Nat => s.heap.size ≤ q) s.heap H locs → lv_has ls 4 [(3, .int x3), (2, .ref o), (1, .ref (a 100)), (0, .ref b)] → W p l e room_1 s m #[Value.ref b] below meth cd H locs 98 48488 (lw_Z below #[Value.ref b] s) (F0 m 18 ls []) := by
  intro fu
  induction fu with
  | zero => intro x3 i q c d jm qm em dm h0 h1 hm; exact absurd hm (Nat.not_lt_zero _)
  | succ fu ih =>
    intro x3 i q c d jm qm em dm h0 h1 hm H locs ls hLI hP hD hS hl
    have hcs : 98 ≤ 600000 ∧ 48488 ≤ 7302249 := ⟨by omega, by omega⟩
    have hbA : ¬ (fun q : Nat => s.heap.size ≤ q) b := Nat.not_le.mpr hbl
    have eL : (Int32.ofNat L).toInt = (L : Int) := nI_toInt (by omega)
    refine lv_iload_n hx hb dL_law_18 rfl (lv_at hl 0 rfl) ?_
    refine lv_aload_n hx hb dL_law_19 rfl (lv_at hl 3 rfl) ?_
    refine va_slen hx hb hX hbl hbA hS dL_law_20 ?_
    refine lv_bipush (v := 7) hx hb dL_law_21 (by decide +kernel) ?_
    refine lv_isub hx hb dL_law_23 ?_
    refine lv_topi (fun y1 e1 => ?_)
    have t1 := ti_sub (a := (L : Int)) (b := 7) e1 eL (by decide +kernel) (by omega) (by omega)
    refine lv_icmp_gt (tgt := 1467) hx hb dL_law_24 (by decide +kernel) (fun c1 => ?_) (fun c1 => ?_)
    · refine lv_iconst (v := 1) hx hb dL_law_1467 (by decide +kernel) ?_
      refine va_forget (fun q hq => hS.2.2 q hq) ?_
      refine W.widen (k := 600000) (n := 7302249) hcs.1 hcs.2 ?_
      exact lw_ret hx hb hr hlocks dL_law_1468
    · have f1 := mt (ti_lt (a := (L : Int) - 7) (b := x3.toInt) t1 rfl).mpr c1
      have hx3 : 0 ≤ x3.toInt ∧ x3.toInt + 7 ≤ (L : Int) := by omega
      have kk : LK p l e s m below meth cd b D .null a t [] o am tm x3 98 48488 := by
        intro i q c d jm qm em dm H locs ls hLI hP hD hS hl
        obtain ⟨y7, e7⟩ : ∃ y : Int32, y = x3 + 7 := ⟨_, rfl⟩
        have t7 := ti_add (a := x3.toInt) (b := 7) e7 rfl (by decide +kernel) (by omega) (by omega)
        refine lv_iinc (v := y7) (lv' := [(3, .int y7), (2, .ref o), (1, .ref (a 100)), (0, .ref b)]) hx hb dL_law_1461 hl (k := 0) rfl (by rw [e7]; rfl) (by decide +kernel) rfl (fun ls hl => ?_)
        refine lv_goto (tgt := 18) hx hb dL_law_1464 (by decide +kernel) ?_
        exact ih y7 i q c d jm qm em dm (by omega) (by omega) (by omega) H locs ls hLI hP hD hS hl
      refine lv_aload_n hx hb dL_law_27 rfl (lv_at hl 3 rfl) ?_
      refine lv_iload_n hx hb dL_law_28 rfl (lv_at hl 0 rfl) ?_
      refine va_sld hx hb hX hbl hbA hS (vp_in_iff.mpr (by omega)) dL_law_29 ?_
      refine lv_bipush (v := 63) hx hb dL_law_30 (by decide +kernel) ?_
      refine lv_iand hx hb dL_law_32 ?_
      refine lv_topi (fun y ey => ?_)
      rcases (show (y.toInt < 0 ∨ 36 < y.toInt) ∨ y.toInt = 0 ∨ y.toInt = 1 ∨ y.toInt = 2 ∨ y.toInt = 3 ∨ y.toInt = 4 ∨ y.toInt = 5 ∨ y.toInt = 6 ∨ y.toInt = 7 ∨ y.toInt = 8 ∨ y.toInt = 9 ∨ y.toInt = 10 ∨ y.toInt = 11 ∨ y.toInt = 12 ∨ y.toInt = 13 ∨ y.toInt = 14 ∨ y.toInt = 15 ∨ y.toInt = 16 ∨ y.toInt = 17 ∨ y.toInt = 18 ∨ y.toInt = 19 ∨ y.toInt = 20 ∨ y.toInt = 21 ∨ y.toInt = 22 ∨ y.toInt = 23 ∨ y.toInt = 24 ∨ y.toInt = 25 ∨ y.toInt = 26 ∨ y.toInt = 27 ∨ y.toInt = 28 ∨ y.toInt = 29 ∨ y.toInt = 30 ∨ y.toInt = 31 ∨ y.toInt = 32 ∨ y.toInt = 33 ∨ y.toInt = 34 ∨ y.toInt = 35 ∨ y.toInt = 36 by omega) with f9 | f9 | f9 | f9 | f9 | f9 | f9 | f9 | f9 | f9 | f9 | f9 | f9 | f9 | f9 | f9 | f9 | f9 | f9 | f9 | f9 | f9 | f9 | f9 | f9 | f9 | f9 | f9 | f9 | f9 | f9 | f9 | f9 | f9 | f9 | f9 | f9 | f9
      · refine lv_tableOut (tgt := 1461) hx hb dL_law_33 f9 (by decide +kernel) ?_
        exact kk i q c d jm qm em dm H locs ls hLI hP hD hS hl
      · refine lv_tableIn (off := 163) (tgt := 196) hx hb dL_law_33 (by omega) (by omega) (by rw [f9]; rfl) (by decide +kernel) ?_
        exact law_kind hx hb hml hown hts hX hbl hL hN hZ hKT hKM hcs hx3 kk i q c d jm qm em dm H locs ls hLI hP hD hS hl
      · refine lv_tableIn (off := 186) (tgt := 219) hx hb dL_law_33 (by omega) (by omega) (by rw [f9]; rfl) (by decide +kernel) ?_
        exact law_standard hx hb hml hown hts hX hbl hL hN hZ hKT hKM hcs hx3 kk i q c d jm qm em dm H locs ls hLI hP hD hS hl
      · refine lv_tableIn (off := 229) (tgt := 262) hx hb dL_law_33 (by omega) (by omega) (by rw [f9]; rfl) (by decide +kernel) ?_
        exact law_make hx hb hml hown hts hX hbl hL hN hZ hKT hKM hcs hx3 kk i q c d jm qm em dm H locs ls hLI hP hD hS hl
      · refine lv_tableIn (off := 262) (tgt := 295) hx hb dL_law_33 (by omega) (by omega) (by rw [f9]; rfl) (by decide +kernel) ?_
        exact law_is hx hb hml hown hts hX hbl hL hN hZ hKT hKM hcs hx3 kk i q c d jm qm em dm H locs ls hLI hP hD hS hl
      · refine lv_tableIn (off := 295) (tgt := 328) hx hb dL_law_33 (by omega) (by omega) (by rw [f9]; rfl) (by decide +kernel) ?_
        exact law_bulk hx hb hml hown hts hX hbl hL hN hZ hKT hKM hcs hx3 kk i q c d jm qm em dm H locs ls hLI hP hD hS hl
      · refine lv_tableIn (off := 318) (tgt := 351) hx hb dL_law_33 (by omega) (by omega) (by rw [f9]; rfl) (by decide +kernel) ?_
        exact law_asked hx hb hml hown hts hX hbl hL hN hZ hKT hKM hcs hx3 kk i q c d jm qm em dm H locs ls hLI hP hD hS hl
      · refine lv_tableIn (off := 331) (tgt := 364) hx hb dL_law_33 (by omega) (by omega) (by rw [f9]; rfl) (by decide +kernel) ?_
        exact law_trace hx hb hml hown hts hX hbl hL hN hZ hKT hKM hcs hx3 kk i q c d jm qm em dm H locs ls hLI hP hD hS hl
      · refine lv_tableIn (off := 354) (tgt := 387) hx hb dL_law_33 (by omega) (by omega) (by rw [f9]; rfl) (by decide +kernel) ?_
        exact law_share hx hb hml hown hts hX hbl hL hN hZ hKT hKM hcs hx3 kk i q c d jm qm em dm H locs ls hLI hP hD hS hl
      · refine lv_tableIn (off := 387) (tgt := 420) hx hb dL_law_33 (by omega) (by omega) (by rw [f9]; rfl) (by decide +kernel) ?_
        exact law_say hx hb hml hown hts hX hbl hL hN hZ hKT hKM hcs hx3 kk i q c d jm qm em dm H locs ls hLI hP hD hS hl
      · refine lv_tableIn (off := 440) (tgt := 473) hx hb dL_law_33 (by omega) (by omega) (by rw [f9]; rfl) (by decide +kernel) ?_
        exact law_unsay hx hb hml hown hts hX hbl hL hN hZ hKT hKM hcs hx3 kk i q c d jm qm em dm H locs ls hLI hP hD hS hl
      · refine lv_tableIn (off := 463) (tgt := 496) hx hb dL_law_33 (by omega) (by omega) (by rw [f9]; rfl) (by decide +kernel) ?_
        exact law_clash hx hb hml hown hts hX hbl hL hN hZ hKT hKM hcs hx3 kk i q c d jm qm em dm H locs ls hLI hP hD hS hl
      · refine lv_tableIn (off := 486) (tgt := 519) hx hb dL_law_33 (by omega) (by omega) (by rw [f9]; rfl) (by decide +kernel) ?_
        exact law_sentence hx hb hml hown hts hX hbl hL hN hZ hKT hKM hcs hx3 kk i q c d jm qm em dm H locs ls hLI hP hD hS hl
      · refine lv_tableIn (off := 519) (tgt := 552) hx hb dL_law_33 (by omega) (by omega) (by rw [f9]; rfl) (by decide +kernel) ?_
        exact law_place hx hb hml hown hts hX hbl hL hN hZ hKT hKM hcs hx3 kk i q c d jm qm em dm H locs ls hLI hP hD hS hl
      · refine lv_tableIn (off := 552) (tgt := 585) hx hb dL_law_33 (by omega) (by omega) (by rw [f9]; rfl) (by decide +kernel) ?_
        exact law_exit hx hb hml hown hts hX hbl hL hN hZ hKT hKM hcs hx3 kk i q c d jm qm em dm H locs ls hLI hP hD hS hl
      · refine lv_tableIn (off := 595) (tgt := 628) hx hb dL_law_33 (by omega) (by omega) (by rw [f9]; rfl) (by decide +kernel) ?_
        exact law_flag hx hb hml hown hts hX hbl hL hN hZ hKT hKM hcs hx3 kk i q c d jm qm em dm H locs ls hLI hP hD hS hl
      · refine lv_tableIn (off := 628) (tgt := 661) hx hb dL_law_33 (by omega) (by omega) (by rw [f9]; rfl) (by decide +kernel) ?_
        exact law_key hx hb hml hown hts hX hbl hL hN hZ hKT hKM hcs hx3 kk i q c d jm qm em dm H locs ls hLI hP hD hS hl
      · refine lv_tableIn (off := 651) (tgt := 684) hx hb dL_law_33 (by omega) (by omega) (by rw [f9]; rfl) (by decide +kernel) ?_
        exact law_way hx hb hml hown hts hX hbl hL hN hZ hKT hKM hcs hx3 kk i q c d jm qm em dm H locs ls hLI hP hD hS hl
      · refine lv_tableIn (off := 710) (tgt := 743) hx hb dL_law_33 (by omega) (by omega) (by rw [f9]; rfl) (by decide +kernel) ?_
        exact law_toward hx hb hml hown hts hX hbl hL hN hZ hKT hKM hcs hx3 kk i q c d jm qm em dm H locs ls hLI hP hD hS hl
      · refine lv_tableIn (off := 769) (tgt := 802) hx hb dL_law_33 (by omega) (by omega) (by rw [f9]; rfl) (by decide +kernel) ?_
        exact law_begin hx hb hml hown hts hX hbl hL hN hZ hKT hKM hcs hx3 kk i q c d jm qm em dm H locs ls hLI hP hD hS hl
      · refine lv_tableIn (off := 792) (tgt := 825) hx hb dL_law_33 (by omega) (by omega) (by rw [f9]; rfl) (by decide +kernel) ?_
        exact law_act hx hb hml hown hts hX hbl hL hN hZ hKT hKM hcs hx3 kk i q c d jm qm em dm H locs ls hLI hP hD hS hl
      · refine lv_tableIn (off := 835) (tgt := 868) hx hb dL_law_33 (by omega) (by omega) (by rw [f9]; rfl) (by decide +kernel) ?_
        exact law_back hx hb hml hown hts hX hbl hL hN hZ hKT hKM hcs hx3 kk i q c d jm qm em dm H locs ls hLI hP hD hS hl
      · refine lv_tableIn (off := 848) (tgt := 881) hx hb dL_law_33 (by omega) (by omega) (by rw [f9]; rfl) (by decide +kernel) ?_
        exact law_now hx hb hml hown hts hX hbl hL hN hZ hKT hKM hcs hx3 kk i q c d jm qm em dm H locs ls hLI hP hD hS hl
      · refine lv_tableIn (off := 881) (tgt := 914) hx hb dL_law_33 (by omega) (by omega) (by rw [f9]; rfl) (by decide +kernel) ?_
        exact law_turn hx hb hml hown hts hX hbl hL hN hZ hKT hKM hcs hx3 kk i q c d jm qm em dm H locs ls hLI hP hD hS hl
      · refine lv_tableIn (off := 914) (tgt := 947) hx hb dL_law_33 (by omega) (by omega) (by rw [f9]; rfl) (by decide +kernel) ?_
        exact law_light hx hb hml hown hts hX hbl hL hN hZ hKT hKM hcs hx3 kk i q c d jm qm em dm H locs ls hLI hP hD hS hl
      · refine lv_tableIn (off := 927) (tgt := 960) hx hb dL_law_33 (by omega) (by omega) (by rw [f9]; rfl) (by decide +kernel) ?_
        refine law_seek_n hx hb hml hown hts hX hbl hL hN hZ hKT hKM hx3 kk (fun az tz i q c d iz cz dz jm qm em dm H locs ls hLI hIz hKZ hP hD hS hl => ?_) i q c d jm qm em dm H locs ls hLI hP hD hS hl
        have hcs2 : 111 ≤ 600000 ∧ 59832 ≤ 7302249 := ⟨by omega, by omega⟩
        obtain ⟨y7, e7⟩ : ∃ y : Int32, y = x3 + 7 := ⟨_, rfl⟩
        have t7 := ti_add (a := x3.toInt) (b := 7) e7 rfl (by decide +kernel) (by omega) (by omega)
        refine lv_iinc (v := y7) (lv' := [(3, .int y7), (2, .ref o), (1, .ref (a 100)), (0, .ref b)]) hx hb dL_law_1461 hl (k := 0) rfl (by rw [e7]; rfl) (by decide +kernel) rfl (fun ls hl => ?_)
        refine lv_goto (tgt := 18) hx hb dL_law_1464 (by decide +kernel) ?_
        exact law_loopS hr hlocks hx hb hml hown hts hX hbl hL hN hZ hKT hKM hcs2 hKZ (fu + 1) y7 i q c d jm qm em dm iz cz dz (by omega) (by omega) (by omega) H locs ls hLI hIz hP hD hS hl
      · refine lv_tableIn (off := 970) (tgt := 1003) hx hb dL_law_33 (by omega) (by omega) (by rw [f9]; rfl) (by decide +kernel) ?_
        exact law_sought_n hx hb hml hown hts hX hbl hL hN hZ hKT hKM hcs hx3 kk i q c d jm qm em dm H locs ls hLI hP hD hS hl
      · refine lv_tableIn (off := 1003) (tgt := 1036) hx hb dL_law_33 (by omega) (by omega) (by rw [f9]; rfl) (by decide +kernel) ?_
        exact law_line hx hb hml hown hts hX hbl hL hN hZ hKT hKM hcs hx3 kk i q c d jm qm em dm H locs ls hLI hP hD hS hl
      · refine lv_tableIn (off := 1046) (tgt := 1079) hx hb dL_law_33 (by omega) (by omega) (by rw [f9]; rfl) (by decide +kernel) ?_
        exact law_put hx hb hml hown hts hX hbl hL hN hZ hKT hKM hcs hx3 kk i q c d jm qm em dm H locs ls hLI hP hD hS hl
      · refine lv_tableIn (off := 1129) (tgt := 1162) hx hb dL_law_33 (by omega) (by omega) (by rw [f9]; rfl) (by decide +kernel) ?_
        exact law_item hx hb hml hown hts hX hbl hL hN hZ hKT hKM hcs hx3 kk i q c d jm qm em dm H locs ls hLI hP hD hS hl
      · refine lv_tableIn (off := 1172) (tgt := 1205) hx hb dL_law_33 (by omega) (by omega) (by rw [f9]; rfl) (by decide +kernel) ?_
        exact law_copy hx hb hml hown hts hX hbl hL hN hZ hKT hKM hcs hx3 kk i q c d jm qm em dm H locs ls hLI hP hD hS hl
      · refine lv_tableIn (off := 1247) (tgt := 1280) hx hb dL_law_33 (by omega) (by omega) (by rw [f9]; rfl) (by decide +kernel) ?_
        exact law_cast hx hb hml hown hts hX hbl hL hN hZ hKT hKM hcs hx3 kk i q c d jm qm em dm H locs ls hLI hP hD hS hl
      · refine lv_tableIn (off := 1280) (tgt := 1313) hx hb dL_law_33 (by omega) (by omega) (by rw [f9]; rfl) (by decide +kernel) ?_
        exact law_role hx hb hml hown hts hX hbl hL hN hZ hKT hKM hcs hx3 kk i q c d jm qm em dm H locs ls hLI hP hD hS hl
      · refine lv_tableIn (off := 1323) (tgt := 1356) hx hb dL_law_33 (by omega) (by omega) (by rw [f9]; rfl) (by decide +kernel) ?_
        exact law_who hx hb hml hown hts hX hbl hL hN hZ hKT hKM hcs hx3 kk i q c d jm qm em dm H locs ls hLI hP hD hS hl
      · refine lv_tableIn (off := 1356) (tgt := 1389) hx hb dL_law_33 (by omega) (by omega) (by rw [f9]; rfl) (by decide +kernel) ?_
        exact law_count_n hx hb hml hown hts hX hbl hL hN hZ hKT hKM hcs hx3 kk i q c d jm qm em dm H locs ls hLI hP hD hS hl
      · refine lv_tableIn (off := 1379) (tgt := 1412) hx hb dL_law_33 (by omega) (by omega) (by rw [f9]; rfl) (by decide +kernel) ?_
        exact law_finding hx hb hml hown hts hX hbl hL hN hZ hKT hKM hcs hx3 kk i q c d jm qm em dm H locs ls hLI hP hD hS hl
      · refine lv_tableIn (off := 1392) (tgt := 1425) hx hb dL_law_33 (by omega) (by omega) (by rw [f9]; rfl) (by decide +kernel) ?_
        exact law_findings hx hb hml hown hts hX hbl hL hN hZ hKT hKM hcs hx3 kk i q c d jm qm em dm H locs ls hLI hP hD hS hl
      · refine lv_tableIn (off := 1415) (tgt := 1448) hx hb dL_law_33 (by omega) (by omega) (by rw [f9]; rfl) (by decide +kernel) ?_
        exact law_digest hx hb hml hown hts hX hbl hL hN hZ hKT hKM hcs hx3 kk i q c d jm qm em dm H locs ls hLI hP hD hS hl

