/-! The law's loop. -/
section LOOP
variable {p : Program} {l : Launch} {e : Env} {s : State} {m : MethodId} {below : List Frame} {meth : Method} {c : Code} {b L : Nat} {xs : Nat → Int32} {G : va_G} {tG : Nat} {C : Nat → ClassId} {a d : Nat → Nat}
set_option maxHeartbeats 4000000 in
set_option maxRecDepth 100000 in
theorem law_case (F : LF p s m meth c b L xs G tG C a d) (hL : L ≤ 2048) {σ : SG} {H : Heap} {locs : List Loc} {ls : Array Slot} {i : Nat} (hB : BOTH G C a d s σ H locs) (hl : lv_has ls 4 [(0, .ref b), (1, .ref (a 0)), (2, .ref (d 0)), (3, .int (nI i))]) (hi : i + 3 < L) (K : ∀ (σ : SG) (H : Heap) (locs : List Loc), BOTH G C a d s σ H locs → LW p l e s m b below meth c H locs 872 ls []) (j : Nat) (hj : j < 32) : LW p l e s m b below meth c H locs 32 ls [.int (nI j)] := by
  obtain ⟨hx, hb, -⟩ := F.use
  match j, hj with
  | 0, _ => exact lv_tableIn (off := 128) (tgt := 160) hx hb dL_law_32 (by decide) (by decide) (by decide) (by decide) (k_0 F hL hB hl hi K)
  | 1, _ => exact lv_tableIn (off := 152) (tgt := 184) hx hb dL_law_32 (by decide) (by decide) (by decide) (by decide) (k_1 F hL hB hl hi K)
  | 2, _ => exact lv_tableIn (off := 166) (tgt := 198) hx hb dL_law_32 (by decide) (by decide) (by decide) (by decide) (k_2 F hL hB hl hi K)
  | 3, _ => exact lv_tableIn (off := 180) (tgt := 212) hx hb dL_law_32 (by decide) (by decide) (by decide) (by decide) (k_3 F hL hB hl hi K)
  | 4, _ => exact lv_tableIn (off := 194) (tgt := 226) hx hb dL_law_32 (by decide) (by decide) (by decide) (by decide) (k_4 F hL hB hl hi K)
  | 5, _ => exact lv_tableIn (off := 208) (tgt := 240) hx hb dL_law_32 (by decide) (by decide) (by decide) (by decide) (k_5 F hL hB hl hi K)
  | 6, _ => exact lv_tableIn (off := 232) (tgt := 264) hx hb dL_law_32 (by decide) (by decide) (by decide) (by decide) (k_6 F hL hB hl hi K)
  | 7, _ => exact lv_tableIn (off := 266) (tgt := 298) hx hb dL_law_32 (by decide) (by decide) (by decide) (by decide) (k_7 F hL hB hl hi K)
  | 8, _ => exact lv_tableIn (off := 290) (tgt := 322) hx hb dL_law_32 (by decide) (by decide) (by decide) (by decide) (k_8 F hL hB hl hi K)
  | 9, _ => exact lv_tableIn (off := 314) (tgt := 346) hx hb dL_law_32 (by decide) (by decide) (by decide) (by decide) (k_9 F hL hB hl hi K)
  | 10, _ => exact lv_tableIn (off := 358) (tgt := 390) hx hb dL_law_32 (by decide) (by decide) (by decide) (by decide) (k_10 F hL hB hl hi K)
  | 11, _ => exact lv_tableIn (off := 392) (tgt := 424) hx hb dL_law_32 (by decide) (by decide) (by decide) (by decide) (k_11 F hL hB hl hi K)
  | 12, _ => exact lv_tableIn (off := 426) (tgt := 458) hx hb dL_law_32 (by decide) (by decide) (by decide) (by decide) (k_12 F hL hB hl hi K)
  | 13, _ => exact lv_tableIn (off := 470) (tgt := 502) hx hb dL_law_32 (by decide) (by decide) (by decide) (by decide) (k_13 F hL hB hl hi K)
  | 14, _ => exact lv_tableIn (off := 494) (tgt := 526) hx hb dL_law_32 (by decide) (by decide) (by decide) (by decide) (k_14 F hL hB hl hi K)
  | 15, _ => exact lv_tableIn (off := 518) (tgt := 550) hx hb dL_law_32 (by decide) (by decide) (by decide) (by decide) (k_15 F hL hB hl hi K)
  | 16, _ => exact lv_tableIn (off := 542) (tgt := 574) hx hb dL_law_32 (by decide) (by decide) (by decide) (by decide) (k_16 F hL hB hl hi K)
  | 17, _ => exact lv_tableIn (off := 566) (tgt := 598) hx hb dL_law_32 (by decide) (by decide) (by decide) (by decide) (k_17 F hL hB hl hi K)
  | 18, _ => exact lv_tableIn (off := 590) (tgt := 622) hx hb dL_law_32 (by decide) (by decide) (by decide) (by decide) (k_18 F hL hB hl hi K)
  | 19, _ => exact lv_tableIn (off := 614) (tgt := 646) hx hb dL_law_32 (by decide) (by decide) (by decide) (by decide) (k_19 F hL hB hl hi K)
  | 20, _ => exact lv_tableIn (off := 648) (tgt := 680) hx hb dL_law_32 (by decide) (by decide) (by decide) (by decide) (k_20 F hL hB hl hi K)
  | 21, _ => exact lv_tableIn (off := 672) (tgt := 704) hx hb dL_law_32 (by decide) (by decide) (by decide) (by decide) (k_21 F hL hB hl hi K)
  | 22, _ => exact lv_tableIn (off := 706) (tgt := 738) hx hb dL_law_32 (by decide) (by decide) (by decide) (by decide) (k_22 F hL hB hl hi K)
  | 23, _ => exact lv_tableIn (off := 740) (tgt := 772) hx hb dL_law_32 (by decide) (by decide) (by decide) (by decide) (k_23 F hL hB hl hi K)
  | 24, _ => exact lv_tableIn (off := 774) (tgt := 806) hx hb dL_law_32 (by decide) (by decide) (by decide) (by decide) (k_24 F hL hB hl hi K)
  | 25, _ => exact lv_tableIn (off := 798) (tgt := 830) hx hb dL_law_32 (by decide) (by decide) (by decide) (by decide) (k_25 F hL hB hl hi K)
  | 26, _ => exact lv_tableIn (off := 812) (tgt := 844) hx hb dL_law_32 (by decide) (by decide) (by decide) (by decide) (k_26 F hL hB hl hi K)
  | 27, _ => exact lv_tableIn (off := 826) (tgt := 858) hx hb dL_law_32 (by decide) (by decide) (by decide) (by decide) (k_27 F hL hB hl hi K)
  | j + 28, hj => exact lv_tableOut (tgt := 872) hx hb dL_law_32 (Or.inr (by rw [nI_toInt (by omega)]; omega)) (by decide) (K σ H locs hB)
set_option maxHeartbeats 4000000 in
set_option maxRecDepth 100000 in
theorem law_loop (F : LF p s m meth c b L xs G tG C a d) (hL : L ≤ 2048) : ∀ (n i : Nat), L + 1 ≤ i + n → i ≤ L → ∀ (σ : SG) (H : Heap) (locs : List Loc), BOTH G C a d s σ H locs → ∀ ls : Array Slot, lv_has ls 4 [(0, .ref b), (1, .ref (a 0)), (2, .ref (d 0)), (3, .int (nI i))] → LW p l e s m b below meth c H locs 18 ls [] := by
  obtain ⟨⟨hx, hb, hr, hml, hown, hts, hX, hbl, hlocks, hgv⟩, -⟩ := id F
  have hb' : c.code = code := hb
  have hb : c.code = cL_law := hb
  have hbA : ¬ (fun q : Nat => s.heap.size ≤ q) b := Nat.not_le.mpr hbl
  intro n
  induction n with
  | zero => intro i h1 h2; exact absurd h1 (by omega)
  | succ n ih =>
    intro i h1 h2 σ H locs hB ls hl
    have hS := hB.2.1
    refine lv_iload_n hx hb dL_law_18 rfl (lv_at hl 3 rfl) ?_
    refine lv_aload_n hx hb dL_law_19 rfl (lv_at hl 0 rfl) ?_
    refine va_slen hx hb hX hbl hbA hS dL_law_20 ?_
    refine lv_iconst (v := 4) hx hb dL_law_21 (by decide) ?_
    refine lv_isub hx hb dL_law_22 ?_
    refine lv_icmp_gt (tgt := 878) hx hb dL_law_23 (by decide) (fun c_1 => ?_) (fun c_1 => ?_)
    · refine lv_iconst (v := 1) hx hb dL_law_878 (by decide) ?_
      refine va_forget (fun q hq => hS.2.2 q hq) ?_
      exact lw_ret hx hb' hr hlocks dL_law_879
    · have hi : i + 3 < L := by
        rw [Int32.lt_iff_toInt_lt, nI_toInt (by omega), Int32.toInt_sub] at c_1
        have e4 : (4 : Int32).toInt = 4 := rfl
        have eL : (Int32.ofNat L).toInt = (L : Int) := nI_toInt (n := L) (by omega)
        rw [e4, eL, Int.bmod_eq_of_le (by omega) (by omega)] at c_1
        omega
      refine lv_aload_n hx hb dL_law_26 rfl (lv_at hl 0 rfl) ?_
      refine lv_iload_n hx hb dL_law_27 rfl (lv_at hl 3 rfl) ?_
      refine va_sld hx hb hX hbl hbA hS (vp_in_nI (n := i) (by omega) (by omega)) dL_law_28 ?_
      refine lv_bipush (v := 31) hx hb dL_law_29 (by decide) ?_
      refine lv_iand hx hb dL_law_31 ?_
      obtain ⟨j, hj, ej⟩ := pk_andE (xs (nI i).toNatClampNeg) (m := 31) 5 (by decide)
      refine tp_i ej ?_
      refine law_case F hL hB hl hi (fun σ H locs hB => ?_) j hj
      refine lv_iinc (v := nI (i + 4)) (lv' := [(3, .int (nI (i + 4))), (0, .ref b), (1, .ref (a 0)), (2, .ref (d 0))]) hx hb dL_law_872 hl (k := 3) rfl (nI_add i 4) (by decide) rfl (fun ls hl => ?_)
      refine lv_goto (tgt := 18) hx hb dL_law_875 (by decide) ?_
      exact ih (i + 4) (by omega) (by omega) σ H locs hB ls (lv_sub hl [1, 2, 3, 0] rfl)
end LOOP
