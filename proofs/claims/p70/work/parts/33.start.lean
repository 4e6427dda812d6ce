theorem hp_arrK {s : State} {cA comp : ClassId} {kA : Class} {ty : FieldType} (h2 : s.vm.classes[cA]? = some kA) (h3 : kA.kind = .array comp ty) : ArrOfT s cA ty := fun n z => ⟨fun k h => (by cases h), kA, h2, comp, h3⟩
set_option maxHeartbeats 4000000 in
set_option maxRecDepth 20000 in
theorem hp_known {s : State} {args : Array Value} (hts : ∀ w ∈ lw_tbl, w.before args s = true) : ∃ (D : va_G) (cy : Nat → ClassId), va_K D hpCl (hpTy cy) s := by
  have htsT : ∀ w ∈ hpT, w.before args s = true := fun w hw => hts w (List.mem_filter.mp hw).1
  have htsN : ∀ w ∈ tables_1, w.before args s = true := fun w hw => hts w (List.mem_append_right _ hw)
  obtain ⟨c0, i0, hKn0⟩ := u_known (C := RX0) (T := TX0) (N := 15) (n := 15) htsT goodsub_0 (htsT _ wd_247)
  obtain ⟨c1, i1, hKn1⟩ := u_known (C := RX1) (T := TX1) (N := 13) (n := 13) htsT goodsub_1 (htsT _ wd_59)
  obtain ⟨c2, i2, hKn2⟩ := u_known (C := RX2) (T := TX2) (N := 6) (n := 6) htsT goodsub_2 (htsT _ wd_216)
  obtain ⟨c3, i3, hKn3⟩ := u_known (C := RX3) (T := TX3) (N := 5) (n := 5) htsT goodsub_3 (htsT _ wd_147)
  obtain ⟨c4, i4, hKn4⟩ := u_known (C := RX4) (T := TX4) (N := 9) (n := 9) htsT goodsub_4 (htsT _ wd_140)
  obtain ⟨c5, i5, hKn5⟩ := u_known (C := RX5) (T := TX5) (N := 3) (n := 3) htsT goodsub_5 (htsT _ wd_307)
  obtain ⟨c6, i6, hKn6⟩ := u_known (C := RX6) (T := TX6) (N := 4) (n := 4) htsT goodsub_6 (htsT _ wd_327)
  obtain ⟨c7, i7, hKn7⟩ := u_known (C := RX7) (T := TX7) (N := 7) (n := 7) htsT goodsub_7 (htsT _ wd_27)
  obtain ⟨c8, i8, hKn8⟩ := u_known (C := RX8) (T := TX8) (N := 16) (n := 16) htsT goodsub_8 (htsT _ wd_19)
  obtain ⟨c9, i9, hKn9⟩ := u_known (C := RX9) (T := TX9) (N := 46) (n := 46) htsT goodsub_9 (htsT _ wd_1252)
  obtain ⟨a10, ka10, co10, f10, g10, h10⟩ := Cond.arrayClass_spec (htsT _ wd_57)
  obtain ⟨a11, ka11, co11, f11, g11, h11⟩ := Cond.arrayClass_spec (htsT _ wd_135)
  obtain ⟨a12, ka12, co12, f12, g12, h12⟩ := Cond.arrayClass_spec (htsT _ wd_305)
  obtain ⟨a13, ka13, co13, f13, g13, h13⟩ := Cond.arrayClass_spec (htsT _ wd_1395)
  obtain ⟨co14, a14, ka14, e14, -, g14, h14, f14⟩ := Cond.arrayOver_spec (n := "TurfHeaps$Moor") (htsN _ (List.mem_of_getElem? (i := 136) (by decide +kernel)))
  obtain ⟨co15, a15, ka15, e15, -, g15, h15, f15⟩ := Cond.arrayOver_spec (n := "TurfHeaps$Row") (htsN _ (List.mem_of_getElem? (i := 146) (by decide +kernel)))
  obtain ⟨co16, a16, ka16, e16, -, g16, h16, f16⟩ := Cond.arrayOver_spec (n := "TurfHeaps$Slot") (htsN _ (List.mem_of_getElem? (i := 138) (by decide +kernel)))
  obtain ⟨co17, a17, ka17, e17, g17, h17, f17⟩ := Jvm.Cond.arrayOver_specA (t := .int) (htsN _ (List.mem_of_getElem? (i := 313) (by decide +kernel)))
  refine ⟨(fun k => if k = 0 then c0 else if k = 1 then c1 else if k = 2 then c2 else if k = 3 then c3 else if k = 4 then c4 else if k = 5 then c5 else if k = 6 then c6 else if k = 7 then c7 else if k = 8 then c8 else c9, fun k => if k = 0 then i0 else if k = 1 then i1 else if k = 2 then i2 else if k = 3 then i3 else if k = 4 then i4 else if k = 5 then i5 else if k = 6 then i6 else if k = 7 then i7 else if k = 8 then i8 else i9), fun k => if k = 10 then a10 else if k = 11 then a11 else if k = 12 then a12 else if k = 13 then a13 else if k = 14 then a14 else if k = 15 then a15 else if k = 16 then a16 else a17, ?_, ?_⟩
  · intro k q hq
    match k, hq with
    | 0, hq => cases hq; exact hKn0
    | 1, hq => cases hq; exact hKn1
    | 2, hq => cases hq; exact hKn2
    | 3, hq => cases hq; exact hKn3
    | 4, hq => cases hq; exact hKn4
    | 5, hq => cases hq; exact hKn5
    | 6, hq => cases hq; exact hKn6
    | 7, hq => cases hq; exact hKn7
    | 8, hq => cases hq; exact hKn8
    | 9, hq => cases hq; exact hKn9
    | k + 10, hq => simp [hpCl] at hq
  · intro k q hq
    match k, hq with
    | 0, hq => cases hq; exact ⟨hp_arrK g10 h10, f10⟩
    | 1, hq => cases hq; exact ⟨hp_arrK g11 h11, f11⟩
    | 2, hq => cases hq; exact ⟨hp_arrK g12 h12, f12⟩
    | 3, hq => cases hq; exact ⟨hp_arrK g13 h13, f13⟩
    | 4, hq => cases hq; exact ⟨hp_arrK g14 h14, ka14, co14, g14, h14, e14, f14⟩
    | 5, hq => cases hq; exact ⟨hp_arrK g15 h15, ka15, co15, g15, h15, e15, f15⟩
    | 6, hq => cases hq; exact ⟨hp_arrK g16 h16, ka16, co16, g16, h16, e16, f16⟩
    | 7, hq => cases hq; exact ⟨hp_arrK g17 h17, f17⟩
    | k + 8, hq => simp [hpTy] at hq
theorem hp_nest {s : State} {args : Array Value} (hts : ∀ w ∈ lw_tbl, w.before args s = true) : hpN s := fun w hw hn => va_Nw.of (A := args) (by cases w <;> first | rfl | (simp [hpNest] at hn)) (hts w (List.mem_append_right _ hw))
theorem hp_over {s : State} {args : Array Value} (hts : ∀ w ∈ lw_tbl, w.before args s = true) : hpA s := fun w hw hn => by
  have h0 := hts w (List.mem_append_right _ hw)
  cases w <;> first | exact h0 | (simp [hpOver] at hn)
theorem hp_str1 {args : Array Value} {s : State} {own : String} {idx n : Nat} {bs : List Int32} (hn : n < 2 ^ 31) (h1 : (Cond.exactly (.string own idx) "java/lang/String").before args s = true) (h2 : (Cond.eq (.field (.string own idx) "java/lang/String" "coder" "B") (.int 0)).before args s = true) (h3 : (Cond.arrayOf (.field (.string own idx) "java/lang/String" "value" "[B") .byte).before args s = true) (h4 : (Cond.eq (.length (.field (.string own idx) "java/lang/String" "value" "[B")) (.int (Int32.ofNat n))).before args s = true) (h5 : ∀ j : Nat, j < n → (Cond.eq (.elem (.field (.string own idx) "java/lang/String" "value" "[B") (.int (Int32.ofNat j))) (.int (bs.getD j 0))).before args s = true) :
    ∃ q v : Nat, (Term.string own idx).eval args s none [] s = some (.ref q) ∧ va_O "java/lang/String" q (fun a => s.heap.size ≤ a) s s.heap ∧ va_OF "java/lang/String" "coder" "B" (.int 0) q (fun a => s.heap.size ≤ a) s s.heap ∧ va_OF "java/lang/String" "value" "[B" (.ref v) q (fun a => s.heap.size ≤ a) s s.heap ∧ va_T .byte v n (fun j => .int (bs.getD j 0)) (fun a => s.heap.size ≤ a) s s.heap := by
  obtain ⟨adK, adV, h, e⟩ := vk_Sof (args := args) (s := s) (N := 1) (tm := fun _ => .string own idx) (len := [n]) (byt := [bs]) (A := fun a => s.heap.size ≤ a) (fun i hi => by obtain rfl : i = 0 := (by omega); exact hn) (fun i _ => h1) (fun i _ => h2) (fun i _ => h3) (fun i hi => by obtain rfl : i = 0 := (by omega); exact h4) (fun i hi j hj => by obtain rfl : i = 0 := (by omega); exact h5 j hj) (fun i j hi hj hne => absurd (show i = j by omega) hne) (fun a ha => Nat.not_le.mpr ha)
  have q := h.1 0 (by decide)
  exact ⟨adK 0, adV 0, e 0 (by decide), q.1, q.2.1, q.2.2.1, q.2.2.2⟩
set_option maxHeartbeats 4000000 in
set_option maxRecDepth 20000 in
theorem hp_strs {s : State} {args : Array Value} (hgv : (Jvm.Cond.and given_1 narrow_1).before args s = true) (hts : ∀ w ∈ lw_tbl, w.before args s = true) : ∃ ad : Nat → Nat × Nat, ∀ i, i < 16 → vk_R (hpsO i) (hpsI i) (hpsT i) (ad i).1 s ∧ hpSs s.heap.size i (ad i).1 (ad i).2 s s.heap := by
  have hs := flat_of_before _ hgv
  have htsN : ∀ w ∈ tables_1, w.before args s = true := fun w hw => hts w (List.mem_append_right _ hw)
  have h0 : ∀ i : Nat, ∃ q : Nat × Nat, i < 16 → vk_R (hpsO i) (hpsI i) (hpsT i) q.1 s ∧ hpSs s.heap.size i q.1 q.2 s s.heap := by
    intro i
    by_cases hi : i < 16
    · rcases (show i = 0 ∨ i = 1 ∨ i = 2 ∨ i = 3 ∨ i = 4 ∨ i = 5 ∨ i = 6 ∨ i = 7 ∨ i = 8 ∨ i = 9 ∨ i = 10 ∨ i = 11 ∨ i = 12 ∨ i = 13 ∨ i = 14 ∨ i = 15 by omega) with rfl | rfl | rfl | rfl | rfl | rfl | rfl | rfl | rfl | rfl | rfl | rfl | rfl | rfl | rfl | rfl
      · obtain ⟨q, v, e, a1, a2, a3, a4⟩ := hp_str1 (args := args) (s := s) (own := "TurfHeaps$Tape") (idx := 71) (n := 4) (bs := [109, 111, 111, 114]) (by decide) (hs _ (by decide +kernel)) (hs _ (by decide +kernel)) (hs _ (by decide +kernel)) (hs _ (by decide +kernel)) (fun j hj => by
          rcases (show j = 0 ∨ j = 1 ∨ j = 2 ∨ j = 3 by omega) with rfl | rfl | rfl | rfl
          all_goals exact hs _ (by decide +kernel))
        exact ⟨(q, v), fun _ => ⟨vk_R.of (A := args) (htsN _ (List.mem_of_getElem? (i := 443) (by decide +kernel))) e, a1, a2, a3, a4⟩⟩
      · obtain ⟨q, v, e, a1, a2, a3, a4⟩ := hp_str1 (args := args) (s := s) (own := "TurfHeaps$Tape") (idx := 73) (n := 4) (bs := [100, 97, 121, 115]) (by decide) (hs _ (by decide +kernel)) (hs _ (by decide +kernel)) (hs _ (by decide +kernel)) (hs _ (by decide +kernel)) (fun j hj => by
          rcases (show j = 0 ∨ j = 1 ∨ j = 2 ∨ j = 3 by omega) with rfl | rfl | rfl | rfl
          all_goals exact hs _ (by decide +kernel))
        exact ⟨(q, v), fun _ => ⟨vk_R.of (A := args) (htsN _ (List.mem_of_getElem? (i := 504) (by decide +kernel))) e, a1, a2, a3, a4⟩⟩
      · obtain ⟨q, v, e, a1, a2, a3, a4⟩ := hp_str1 (args := args) (s := s) (own := "TurfHeaps$Tape") (idx := 81) (n := 3) (bs := [108, 97, 119]) (by decide) (hs _ (by decide +kernel)) (hs _ (by decide +kernel)) (hs _ (by decide +kernel)) (hs _ (by decide +kernel)) (fun j hj => by
          rcases (show j = 0 ∨ j = 1 ∨ j = 2 by omega) with rfl | rfl | rfl
          all_goals exact hs _ (by decide +kernel))
        exact ⟨(q, v), fun _ => ⟨vk_R.of (A := args) (htsN _ (List.mem_of_getElem? (i := 516) (by decide +kernel))) e, a1, a2, a3, a4⟩⟩
      · obtain ⟨q, v, e, a1, a2, a3, a4⟩ := hp_str1 (args := args) (s := s) (own := "TurfHeaps$Tape") (idx := 85) (n := 4) (bs := [111, 100, 100, 115]) (by decide) (hs _ (by decide +kernel)) (hs _ (by decide +kernel)) (hs _ (by decide +kernel)) (hs _ (by decide +kernel)) (fun j hj => by
          rcases (show j = 0 ∨ j = 1 ∨ j = 2 ∨ j = 3 by omega) with rfl | rfl | rfl | rfl
          all_goals exact hs _ (by decide +kernel))
        exact ⟨(q, v), fun _ => ⟨vk_R.of (A := args) (htsN _ (List.mem_of_getElem? (i := 517) (by decide +kernel))) e, a1, a2, a3, a4⟩⟩
      · obtain ⟨q, v, e, a1, a2, a3, a4⟩ := hp_str1 (args := args) (s := s) (own := "TurfHeaps$Tape") (idx := 49) (n := 4) (bs := [104, 101, 97, 112]) (by decide) (hs _ (by decide +kernel)) (hs _ (by decide +kernel)) (hs _ (by decide +kernel)) (hs _ (by decide +kernel)) (fun j hj => by
          rcases (show j = 0 ∨ j = 1 ∨ j = 2 ∨ j = 3 by omega) with rfl | rfl | rfl | rfl
          all_goals exact hs _ (by decide +kernel))
        exact ⟨(q, v), fun _ => ⟨vk_R.of (A := args) (htsN _ (List.mem_of_getElem? (i := 518) (by decide +kernel))) e, a1, a2, a3, a4⟩⟩
      · obtain ⟨q, v, e, a1, a2, a3, a4⟩ := hp_str1 (args := args) (s := s) (own := "TurfHeaps$Tape") (idx := 92) (n := 2) (bs := [111, 102]) (by decide) (hs _ (by decide +kernel)) (hs _ (by decide +kernel)) (hs _ (by decide +kernel)) (hs _ (by decide +kernel)) (fun j hj => by
          rcases (show j = 0 ∨ j = 1 by omega) with rfl | rfl
          all_goals exact hs _ (by decide +kernel))
        exact ⟨(q, v), fun _ => ⟨vk_R.of (A := args) (htsN _ (List.mem_of_getElem? (i := 523) (by decide +kernel))) e, a1, a2, a3, a4⟩⟩
      · obtain ⟨q, v, e, a1, a2, a3, a4⟩ := hp_str1 (args := args) (s := s) (own := "TurfHeaps$Tape") (idx := 58) (n := 4) (bs := [99, 97, 114, 116]) (by decide) (hs _ (by decide +kernel)) (hs _ (by decide +kernel)) (hs _ (by decide +kernel)) (hs _ (by decide +kernel)) (fun j hj => by
          rcases (show j = 0 ∨ j = 1 ∨ j = 2 ∨ j = 3 by omega) with rfl | rfl | rfl | rfl
          all_goals exact hs _ (by decide +kernel))
        exact ⟨(q, v), fun _ => ⟨vk_R.of (A := args) (htsN _ (List.mem_of_getElem? (i := 524) (by decide +kernel))) e, a1, a2, a3, a4⟩⟩
      · obtain ⟨q, v, e, a1, a2, a3, a4⟩ := hp_str1 (args := args) (s := s) (own := "TurfHeaps$Tape") (idx := 104) (n := 2) (bs := [97, 116]) (by decide) (hs _ (by decide +kernel)) (hs _ (by decide +kernel)) (hs _ (by decide +kernel)) (hs _ (by decide +kernel)) (fun j hj => by
          rcases (show j = 0 ∨ j = 1 by omega) with rfl | rfl
          all_goals exact hs _ (by decide +kernel))
        exact ⟨(q, v), fun _ => ⟨vk_R.of (A := args) (htsN _ (List.mem_of_getElem? (i := 529) (by decide +kernel))) e, a1, a2, a3, a4⟩⟩
      · obtain ⟨q, v, e, a1, a2, a3, a4⟩ := hp_str1 (args := args) (s := s) (own := "TurfHeapsModel") (idx := 173) (n := 4) (bs := [109, 111, 111, 114]) (by decide) (hs _ (by decide +kernel)) (hs _ (by decide +kernel)) (hs _ (by decide +kernel)) (hs _ (by decide +kernel)) (fun j hj => by
          rcases (show j = 0 ∨ j = 1 ∨ j = 2 ∨ j = 3 by omega) with rfl | rfl | rfl | rfl
          all_goals exact hs _ (by decide +kernel))
        exact ⟨(q, v), fun _ => ⟨vk_R.of (A := args) (htsN _ (List.mem_of_getElem? (i := 1450) (by decide +kernel))) e, a1, a2, a3, a4⟩⟩
      · obtain ⟨q, v, e, a1, a2, a3, a4⟩ := hp_str1 (args := args) (s := s) (own := "TurfHeapsModel") (idx := 175) (n := 4) (bs := [100, 97, 121, 115]) (by decide) (hs _ (by decide +kernel)) (hs _ (by decide +kernel)) (hs _ (by decide +kernel)) (hs _ (by decide +kernel)) (fun j hj => by
          rcases (show j = 0 ∨ j = 1 ∨ j = 2 ∨ j = 3 by omega) with rfl | rfl | rfl | rfl
          all_goals exact hs _ (by decide +kernel))
        exact ⟨(q, v), fun _ => ⟨vk_R.of (A := args) (htsN _ (List.mem_of_getElem? (i := 1469) (by decide +kernel))) e, a1, a2, a3, a4⟩⟩
      · obtain ⟨q, v, e, a1, a2, a3, a4⟩ := hp_str1 (args := args) (s := s) (own := "TurfHeapsModel") (idx := 180) (n := 3) (bs := [108, 97, 119]) (by decide) (hs _ (by decide +kernel)) (hs _ (by decide +kernel)) (hs _ (by decide +kernel)) (hs _ (by decide +kernel)) (fun j hj => by
          rcases (show j = 0 ∨ j = 1 ∨ j = 2 by omega) with rfl | rfl | rfl
          all_goals exact hs _ (by decide +kernel))
        exact ⟨(q, v), fun _ => ⟨vk_R.of (A := args) (htsN _ (List.mem_of_getElem? (i := 1478) (by decide +kernel))) e, a1, a2, a3, a4⟩⟩
      · obtain ⟨q, v, e, a1, a2, a3, a4⟩ := hp_str1 (args := args) (s := s) (own := "TurfHeapsModel") (idx := 182) (n := 4) (bs := [111, 100, 100, 115]) (by decide) (hs _ (by decide +kernel)) (hs _ (by decide +kernel)) (hs _ (by decide +kernel)) (hs _ (by decide +kernel)) (fun j hj => by
          rcases (show j = 0 ∨ j = 1 ∨ j = 2 ∨ j = 3 by omega) with rfl | rfl | rfl | rfl
          all_goals exact hs _ (by decide +kernel))
        exact ⟨(q, v), fun _ => ⟨vk_R.of (A := args) (htsN _ (List.mem_of_getElem? (i := 1479) (by decide +kernel))) e, a1, a2, a3, a4⟩⟩
      · obtain ⟨q, v, e, a1, a2, a3, a4⟩ := hp_str1 (args := args) (s := s) (own := "TurfHeapsModel") (idx := 184) (n := 4) (bs := [104, 101, 97, 112]) (by decide) (hs _ (by decide +kernel)) (hs _ (by decide +kernel)) (hs _ (by decide +kernel)) (hs _ (by decide +kernel)) (fun j hj => by
          rcases (show j = 0 ∨ j = 1 ∨ j = 2 ∨ j = 3 by omega) with rfl | rfl | rfl | rfl
          all_goals exact hs _ (by decide +kernel))
        exact ⟨(q, v), fun _ => ⟨vk_R.of (A := args) (htsN _ (List.mem_of_getElem? (i := 1484) (by decide +kernel))) e, a1, a2, a3, a4⟩⟩
      · obtain ⟨q, v, e, a1, a2, a3, a4⟩ := hp_str1 (args := args) (s := s) (own := "TurfHeapsModel") (idx := 186) (n := 4) (bs := [99, 97, 114, 116]) (by decide) (hs _ (by decide +kernel)) (hs _ (by decide +kernel)) (hs _ (by decide +kernel)) (hs _ (by decide +kernel)) (fun j hj => by
          rcases (show j = 0 ∨ j = 1 ∨ j = 2 ∨ j = 3 by omega) with rfl | rfl | rfl | rfl
          all_goals exact hs _ (by decide +kernel))
        exact ⟨(q, v), fun _ => ⟨vk_R.of (A := args) (htsN _ (List.mem_of_getElem? (i := 1485) (by decide +kernel))) e, a1, a2, a3, a4⟩⟩
      · obtain ⟨q, v, e, a1, a2, a3, a4⟩ := hp_str1 (args := args) (s := s) (own := "TurfHeapsModel") (idx := 188) (n := 2) (bs := [111, 102]) (by decide) (hs _ (by decide +kernel)) (hs _ (by decide +kernel)) (hs _ (by decide +kernel)) (hs _ (by decide +kernel)) (fun j hj => by
          rcases (show j = 0 ∨ j = 1 by omega) with rfl | rfl
          all_goals exact hs _ (by decide +kernel))
        exact ⟨(q, v), fun _ => ⟨vk_R.of (A := args) (htsN _ (List.mem_of_getElem? (i := 1486) (by decide +kernel))) e, a1, a2, a3, a4⟩⟩
      · obtain ⟨q, v, e, a1, a2, a3, a4⟩ := hp_str1 (args := args) (s := s) (own := "TurfHeapsModel") (idx := 190) (n := 2) (bs := [97, 116]) (by decide) (hs _ (by decide +kernel)) (hs _ (by decide +kernel)) (hs _ (by decide +kernel)) (hs _ (by decide +kernel)) (fun j hj => by
          rcases (show j = 0 ∨ j = 1 by omega) with rfl | rfl
          all_goals exact hs _ (by decide +kernel))
        exact ⟨(q, v), fun _ => ⟨vk_R.of (A := args) (htsN _ (List.mem_of_getElem? (i := 1487) (by decide +kernel))) e, a1, a2, a3, a4⟩⟩
    · exact ⟨(0, 0), fun h => absurd h hi⟩
  obtain ⟨ad, had⟩ := Classical.axiomOfChoice h0
  exact ⟨ad, had⟩
theorem hpStr_0 {s : State} {args : Array Value} {cy : Nat → ClassId} (hgv : (Jvm.Cond.and given_1 narrow_1).before args s = true) (hts : ∀ w ∈ lw_tbl, w.before args s = true) (h : ∀ i, i < 16 → vk_R (hpsO i) (hpsI i) (hpsT i) (cy (1000 + i)) s ∧ hpSs s.heap.size i (cy (1000 + i)) (cy (1100 + i)) s s.heap) : hpStr s.heap.size cy s s.heap := by
  have hs := flat_of_before _ hgv
  have htsN : ∀ w ∈ tables_1, w.before args s = true := fun w hw => hts w (List.mem_append_right _ hw)
  refine ⟨va_Zof (args := args) (htsN _ (List.mem_of_getElem? (i := 457) (by decide +kernel))) (htsN _ (List.mem_of_getElem? (i := 11) (by decide +kernel))) (va_eqt (hs (Cond.eq (.static "java/lang/String" "COMPACT_STRINGS" "Z") (.int 1)) (by decide +kernel))) (fun a ha => Nat.not_le.mpr ha), va_Zqof (args := args) (htsN _ (List.mem_of_getElem? (i := 473) (by decide +kernel))) (htsN _ (List.mem_of_getElem? (i := 13) (by decide +kernel))) (hs _ (by decide +kernel)) (fun a ha => Nat.not_le.mpr ha), h⟩
theorem hp_gdm {α : Type} (l : List α) (i : Nat) (d : α) : l.getD i d ∈ l ∨ l.getD i d = d := by
  rw [List.getD_eq_getElem?_getD]
  rcases Nat.lt_or_ge i l.length with h | h
  · rw [List.getElem?_eq_getElem h]
    exact Or.inl (List.getElem_mem h)
  · rw [List.getElem?_eq_none h]
    exact Or.inr rfl
theorem hpFB_0 : ∀ r ∈ hpFB, ∀ b ∈ r, b.1 ≤ 0 ∧ 0 ≤ b.2 := by decide +kernel
theorem hpI2_0 : hpI2.1 ≤ 0 ∧ 0 ≤ hpI2.2 := by decide
theorem hpwb_0 (i : Nat) : (hpwb i).1 ≤ 0 ∧ 0 ≤ (hpwb i).2 := by
  unfold hpwb
  repeat' (first | exact hpI2_0 | decide | split)
theorem hpbnd_0 (c i : Nat) : (hpbnd c i).1 ≤ 0 ∧ 0 ≤ (hpbnd c i).2 := by
  unfold hpbnd
  repeat' (first | exact hpI2_0 | exact hpwb_0 _ | decide | split)
theorem hpbo_0 (k i : Nat) : (hpbo k i).1 ≤ 0 ∧ 0 ≤ (hpbo k i).2 := by
  unfold hpbo
  split
  · rcases hp_gdm (hpFB.getD (hpkd k) []) i hpI2 with h | h
    · rcases hp_gdm hpFB (hpkd k) [] with g | g
      · exact hpFB_0 _ g _ h
      · rw [g] at h
        exact absurd h List.not_mem_nil
    · rw [h]
      exact hpI2_0
  · exact hpbnd_0 _ _
theorem hpInv_0 : hpInv hp0 := by
  intro k i
  have h0 := hpbo_0 k i
  unfold hp0
  by_cases c1 : k = 1 ∧ i = 3
  · obtain ⟨rfl, rfl⟩ := c1
    decide +kernel
  rw [if_neg c1]
  by_cases c2 : k = 0 ∧ i = 15
  · obtain ⟨rfl, rfl⟩ := c2
    decide +kernel
  rw [if_neg c2]
  by_cases c3 : k = 130 ∧ i = 14
  · obtain ⟨rfl, rfl⟩ := c3
    decide +kernel
  rw [if_neg c3]
  by_cases c4 : k = 195 ∧ i = 13
  · obtain ⟨rfl, rfl⟩ := c4
    decide +kernel
  rw [if_neg c4]
  by_cases c5 : k = 213 ∧ i < 4
  · rw [if_pos c5]
    obtain ⟨rfl, h⟩ := c5
    rw [bo_213]
    decide
  rw [if_neg c5]
  exact h0
set_option maxHeartbeats 4000000 in
set_option maxRecDepth 20000 in
theorem whole_start {p : Program} {e : Env} {s : State} {m : MethodId} {below : List Frame} {meth : Method} {c : Code} (l : Launch) (hflags : l.flags = flags0) {b L : Nat} {xs : Nat → Int32} (hL : L ≤ 3072) (C0 : lw_At p s m meth c b L xs) : W p l e room_1 s m #[Value.ref b] below meth c s.heap [] 0 0 (lw_Z below #[Value.ref b] s) (entryFrame m ([Value.ref b] : List Value).toArray 4) := by
  obtain ⟨hx, hb, hr, hml, hown, hts, hX, hbl, hlocks, hgv⟩ := id C0
  obtain ⟨D, cy0, hK0⟩ := hp_known hts
  obtain ⟨ad, had⟩ := hp_strs hgv hts
  obtain ⟨cy, ecy⟩ : ∃ cy : Nat → ClassId, cy = fun k => if k < 1000 then cy0 k else if k < 1100 then (ad (k - 1000)).1 else (ad (k - 1100)).2 := ⟨_, rfl⟩
  have hK : va_K D hpCl (hpTy cy) s := by rw [ecy]; exact hK0
  have Z : hpStr s.heap.size cy s s.heap := hpStr_0 hgv hts (fun i hi => by
    have e1 : cy (1000 + i) = (ad i).1 := by rw [ecy]; show (if 1000 + i < 1000 then _ else if 1000 + i < 1100 then (ad (1000 + i - 1000)).1 else _) = _; rw [if_neg (by omega), if_pos (by omega), show 1000 + i - 1000 = i by omega]
    have e2 : cy (1100 + i) = (ad i).2 := by rw [ecy]; show (if 1100 + i < 1000 then _ else if 1100 + i < 1100 then (ad (1100 + i - 1000)).1 else (ad (1100 + i - 1100)).2) = _; rw [if_neg (by omega), if_neg (by omega), show 1100 + i - 1100 = i by omega]
    rw [e1, e2]
    exact had i hi)
  have A := hp_over hts
  have C : hpC p s m #[.ref b] c code 4 RL D cy := ⟨hx, hb, hml, hown, fun w hw => hts w (List.mem_filter.mp hw).1, hp_nest hts, hK⟩
  have hl := lv_entry ([.ref b]) (n := 4) (Nat.le_of_ble_eq_true rfl)
  rw [lg_entry_eq]
  generalize (lg_sl ([.ref b]) ++ List.replicate (4 - (lg_sl ([.ref b])).length) Slot.unset).toArray = ls at hl ⊢
  have hl : lv_has ls 4 [(0, .ref b)] := hl
  have hS : va_S (fun q : Nat => s.heap.size ≤ q) s.heap s.heap [] := va_S.rf
  have hP : va_P D hpCl (hpWn s.heap.size 0 (fun _ => .inr (0, []))) s.heap := fun k q h => absurd (hpWn_inv h).1 (Nat.not_lt_zero _)
  refine n_new (n := 0) (fs := [.null, .null, .null, .null, .null, .null, .null, .null, .null, .null, .null, .null, .null, .int (hpI 0), .int (hpI 0), .int (hpI 0)]) C O8 bl_8 wd_18 wd_19 wd_1 hP hS rfl (Nat.le_of_ble_eq_true rfl) (Nat.le_of_ble_eq_true rfl) dL_0 (fun H hP hS => ?_)
  refine lv_dup C.1 C.2.1 dL_3 rfl ?_
  refine n_size (n1 := 0) (n := 1) rfl rfl hS hP (fun hsz => ?_)
  refine n_ctor (k := 0) C A yk_8 wd_20 (kX8_0 l D cy s.heap.size _ hp_at) hl hP hS hsz ⟨rfl, rfl, Nat.le_of_ble_eq_true rfl, Nat.le_of_ble_eq_true rfl⟩ ⟨Nat.le_of_ble_eq_true rfl, Nat.le_of_ble_eq_true rfl⟩ (Nat.le_of_ble_eq_true rfl) dL_4 (fun H locs E1 hP hS hj1 hi1 => ?_)
  have hP : va_P D hpCl (hpWn s.heap.size 195 E1) H := hP
  refine lv_astore_n (lv' := [(1, .ref (s.heap.size + 0)), (0, .ref b)]) C.1 C.2.1 dL_7 rfl hl (by decide) rfl (fun ls hl => ?_)
  refine n_size (n1 := 0) (n := 195) rfl rfl hS hP (fun hsz => ?_)
  refine n_new (n := 195) (fs := (.int (hpI 0) :: .null :: .null :: .null :: .null :: .int (hpI 0) :: .null :: .int (hpI 0) :: .int (hpI 0) :: .int (hpI 0) :: .int (hpI 0) :: .int (hpI 0) :: .int (hpI 0) :: .int (hpI 0) :: .null :: .null :: .int (hpI 0) :: .int (hpI 0) :: .int (hpI 0) :: .null :: .null :: .int (hpI 0) :: .int (hpI 0) :: .int (hpI 0) :: .int (hpI 0) :: .null :: .null :: .int (hpI 0) :: .int (hpI 0) :: .null :: .null :: .null :: .int (hpI 0) :: .int (hpI 0) :: .null :: .null :: .int (hpI 0) :: .int (hpI 0) :: .null :: .long (hpJ 0) :: .long (hpJ 0) :: .long (hpJ 0) :: .null :: .null :: .null :: .null :: [])) C O9 bl_9 wd_1251 wd_1252 wd_10 hP hS hsz (Nat.le_of_ble_eq_true rfl) (Nat.le_of_ble_eq_true rfl) dL_8 (fun H hP hS => ?_)
  refine lv_dup C.1 C.2.1 dL_11 rfl ?_
  refine n_size (n1 := 0) (n := 196) rfl rfl hS hP (fun hsz => ?_)
  refine n_ctor (k := 195) C A yk_9 wd_1253 (kX9_195 l D cy s.heap.size _ hp_at) hl hP hS hsz ⟨rfl, rfl, Nat.le_of_ble_eq_true rfl, Nat.le_of_ble_eq_true rfl⟩ ⟨Nat.le_of_ble_eq_true rfl, Nat.le_of_ble_eq_true rfl⟩ (Nat.le_of_ble_eq_true rfl) dL_12 (fun H locs E2 hP hS hj2 hi2 => ?_)
  have hP : va_P D hpCl (hpWn s.heap.size 217 E2) H := hP
  rw [hpWn_hpW (cy := cy) (σ := hp0) (fun k hk => by
    rcases Nat.lt_or_ge k 195 with h | h
    · rw [hj2 k h, hp_ne (by omega)]
      exact hi1 k (Nat.zero_le k) (by omega)
    · exact hi2 k h hk)] at hP
  refine lv_astore_n (lv' := [(2, .ref (s.heap.size + 195)), (1, .ref (s.heap.size + 0)), (0, .ref b)]) C.1 C.2.1 dL_15 rfl hl (by decide) rfl (fun ls hl => ?_)
  refine lv_iconst (v := hpI 0) C.1 C.2.1 dL_16 rfl ?_
  refine lv_istore_n (lv' := [(3, .int (hpI 0)), (2, .ref (s.heap.size + 195)), (1, .ref (s.heap.size + 0)), (0, .ref b)]) C.1 C.2.1 dL_17 rfl hl (by decide) rfl (fun ls hl => ?_)
  refine W.widen (k := 217) (n := 24316) (by decide) (by decide) ?_
  exact law_loop l C Z hr hlocks hX hbl hL 8192 hp0 0 hpInv_0 hpR70_0 (by decide) (by decide) (by decide) H locs ls hl hP hS
