section
theorem cdX10_sheet : yX10_sheet.cls ≠ "java/lang/invoke/MethodHandle" ∧ yX10_sheet.cls ≠ "java/lang/invoke/VarHandle" ∧ (parseMethodDescriptor yX10_sheet.desc).map (fun d => d.parameters.length) = some 3 := by decide +kernel
theorem cdX10_set : yX10_set.cls ≠ "java/lang/invoke/MethodHandle" ∧ yX10_set.cls ≠ "java/lang/invoke/VarHandle" ∧ (parseMethodDescriptor yX10_set.desc).map (fun d => d.parameters.length) = some 3 := by decide +kernel
theorem cdX10_copy : yX10_copy.cls ≠ "java/lang/invoke/MethodHandle" ∧ yX10_copy.cls ≠ "java/lang/invoke/VarHandle" ∧ (parseMethodDescriptor yX10_copy.desc).map (fun d => d.parameters.length) = some 5 := by decide +kernel
theorem cdX10_drop : yX10_drop.cls ≠ "java/lang/invoke/MethodHandle" ∧ yX10_drop.cls ≠ "java/lang/invoke/VarHandle" ∧ (parseMethodDescriptor yX10_drop.desc).map (fun d => d.parameters.length) = some 1 := by decide +kernel
theorem cdX11_sheet : yX11_sheet.cls ≠ "java/lang/invoke/MethodHandle" ∧ yX11_sheet.cls ≠ "java/lang/invoke/VarHandle" ∧ (parseMethodDescriptor yX11_sheet.desc).map (fun d => d.parameters.length) = some 3 := by decide +kernel
theorem cdX11_set : yX11_set.cls ≠ "java/lang/invoke/MethodHandle" ∧ yX11_set.cls ≠ "java/lang/invoke/VarHandle" ∧ (parseMethodDescriptor yX11_set.desc).map (fun d => d.parameters.length) = some 3 := by decide +kernel
theorem cdX11_copy : yX11_copy.cls ≠ "java/lang/invoke/MethodHandle" ∧ yX11_copy.cls ≠ "java/lang/invoke/VarHandle" ∧ (parseMethodDescriptor yX11_copy.desc).map (fun d => d.parameters.length) = some 5 := by decide +kernel
theorem cdX11_drop : yX11_drop.cls ≠ "java/lang/invoke/MethodHandle" ∧ yX11_drop.cls ≠ "java/lang/invoke/VarHandle" ∧ (parseMethodDescriptor yX11_drop.desc).map (fun d => d.parameters.length) = some 1 := by decide +kernel
theorem Gd_X10_sheet : gdA wsX10_sheet := gd_cons (by decide +kernel) (gd_app (gd_all (ws := wsX10_sheet_o1) (by decide +kernel)) (gd_app (gd_app (gd_app Gd_X100 Gd_X90) Gd_X10_isBelow) (gd_app (gd_app Gd_X10_finding Gd_X9_lay) Gd_X10_passed)))
theorem Gd_X10_set : gdA wsX10_set := gd_cons (by decide +kernel) (gd_app (gd_all (ws := wsX10_set_o1) (by decide +kernel)) (gd_app (gd_app (gd_app Gd_X100 Gd_X90) (gd_app Gd_X10_isBelow Gd_X9_isMissing)) (gd_app (gd_app Gd_X10_finding Gd_X9_hasPlaces) (gd_app Gd_X9_put Gd_X10_passed))))
theorem Gd_X10_copy : gdA wsX10_copy := gd_cons (by decide +kernel) (gd_app (gd_all (ws := wsX10_copy_o1) (by decide +kernel)) (gd_app (gd_app (gd_app Gd_X100 Gd_X90) (gd_app Gd_X10_isBelow Gd_X9_isMissing)) (gd_app (gd_app Gd_X10_finding Gd_X9_hasPlaces) Gd_X10_passed)))
theorem Gd_X10_drop : gdA wsX10_drop := gd_cons (by decide +kernel) (gd_app (gd_all (ws := wsX10_drop_o1) (by decide +kernel)) (gd_app (gd_app (gd_app Gd_X100 Gd_X90) (gd_app Gd_X10_isBelow Gd_X9_isMissing)) (gd_app (gd_app Gd_X10_finding Gd_X9_takeAway) Gd_X10_passed)))
theorem Gd_X11_sheet : gdA wsX11_sheet := gd_cons (by decide +kernel) (gd_app (gd_all (ws := wsX11_sheet_o1) (by decide +kernel)) (gd_app (gd_app Gd_X110 Gd_X11_isSheet) (gd_app Gd_X11_in Gd_X11_found)))
theorem Gd_X11_set : gdA wsX11_set := gd_cons (by decide +kernel) (gd_app (gd_all (ws := wsX11_set_o1) (by decide +kernel)) (gd_app (gd_app Gd_X110 Gd_X11_isSheet) (gd_app Gd_X11_found Gd_X11_in)))
theorem Gd_X11_copy : gdA wsX11_copy := gd_cons (by decide +kernel) (gd_app (gd_all (ws := wsX11_copy_o1) (by decide +kernel)) (gd_app (gd_app Gd_X110 Gd_X11_isSheet) Gd_X11_found))
theorem Gd_X11_drop : gdA wsX11_drop := gd_cons (by decide +kernel) (gd_app (gd_all (ws := wsX11_drop_o1) (by decide +kernel)) (gd_app (gd_app Gd_X110 Gd_X11_isSheet) Gd_X11_found))
theorem ggL_law_X10_sheet : GoodIn wsL_law wsX10_sheet := goodIn_s (fun _ h => (wm_r (wm_l (wm_l (wm_r (wm_l (wm_r (wm_l (wm_l h))))))))) Gd_X10_sheet
theorem gL_law_X10_sheet : GoodIn wsL_law (wsV RL 21 RX10 yX10_sheet wsX10_sheet) := goodIn_V (own := RL) (idx := 21) (C := RX10) (y := yX10_sheet) (wm_l (wm_l (wm_l (wm_l (wm_l (wm_i 14 rfl)))))) (wm_l (wm_l (wm_l (wm_l (wm_l (wm_i 15 rfl)))))) (wm_l (wm_l (wm_l (wm_l (wm_l (wm_i 16 rfl)))))) (wm_l (wm_l (wm_l (wm_l (wm_l (wm_i 2 rfl)))))) ggL_law_X10_sheet
theorem ggL_law_X11_sheet : GoodIn wsL_law wsX11_sheet := goodIn_s (fun _ h => (wm_r (wm_l (wm_l (wm_r (wm_l (wm_r (wm_l (wm_r h))))))))) Gd_X11_sheet
theorem gL_law_X11_sheet : GoodIn wsL_law (wsV RL 25 RX11 yX11_sheet wsX11_sheet) := goodIn_V (own := RL) (idx := 25) (C := RX11) (y := yX11_sheet) (wm_l (wm_l (wm_l (wm_l (wm_l (wm_i 17 rfl)))))) (wm_l (wm_l (wm_l (wm_l (wm_l (wm_i 18 rfl)))))) (wm_l (wm_l (wm_l (wm_l (wm_l (wm_i 19 rfl)))))) (wm_l (wm_l (wm_l (wm_l (wm_l (wm_i 5 rfl)))))) ggL_law_X11_sheet
theorem ggL_law_X10_set : GoodIn wsL_law wsX10_set := goodIn_s (fun _ h => (wm_r (wm_l (wm_l (wm_r (wm_l (wm_r (wm_r h)))))))) Gd_X10_set
theorem gL_law_X10_set : GoodIn wsL_law (wsV RL 26 RX10 yX10_set wsX10_set) := goodIn_V (own := RL) (idx := 26) (C := RX10) (y := yX10_set) (wm_l (wm_l (wm_l (wm_l (wm_l (wm_i 20 rfl)))))) (wm_l (wm_l (wm_l (wm_l (wm_l (wm_i 21 rfl)))))) (wm_l (wm_l (wm_l (wm_l (wm_l (wm_i 22 rfl)))))) (wm_l (wm_l (wm_l (wm_l (wm_l (wm_i 2 rfl)))))) ggL_law_X10_set
theorem ggL_law_X11_set : GoodIn wsL_law wsX11_set := goodIn_s (fun _ h => (wm_r (wm_l (wm_l (wm_r (wm_r (wm_l (wm_l (wm_l h))))))))) Gd_X11_set
theorem gL_law_X11_set : GoodIn wsL_law (wsV RL 29 RX11 yX11_set wsX11_set) := goodIn_V (own := RL) (idx := 29) (C := RX11) (y := yX11_set) (wm_l (wm_l (wm_l (wm_l (wm_l (wm_i 23 rfl)))))) (wm_l (wm_l (wm_l (wm_l (wm_r (wm_i 0 rfl)))))) (wm_l (wm_l (wm_l (wm_l (wm_r (wm_i 1 rfl)))))) (wm_l (wm_l (wm_l (wm_l (wm_l (wm_i 5 rfl)))))) ggL_law_X11_set
theorem ggL_law_X10_copy : GoodIn wsL_law wsX10_copy := goodIn_s (fun _ h => (wm_r (wm_l (wm_l (wm_r (wm_r (wm_l (wm_l (wm_r h))))))))) Gd_X10_copy
theorem gL_law_X10_copy : GoodIn wsL_law (wsV RL 30 RX10 yX10_copy wsX10_copy) := goodIn_V (own := RL) (idx := 30) (C := RX10) (y := yX10_copy) (wm_l (wm_l (wm_l (wm_l (wm_r (wm_i 2 rfl)))))) (wm_l (wm_l (wm_l (wm_l (wm_r (wm_i 3 rfl)))))) (wm_l (wm_l (wm_l (wm_l (wm_r (wm_i 4 rfl)))))) (wm_l (wm_l (wm_l (wm_l (wm_l (wm_i 2 rfl)))))) ggL_law_X10_copy
theorem ggL_law_X11_copy : GoodIn wsL_law wsX11_copy := goodIn_s (fun _ h => (wm_r (wm_l (wm_l (wm_r (wm_r (wm_l (wm_r h)))))))) Gd_X11_copy
theorem gL_law_X11_copy : GoodIn wsL_law (wsV RL 34 RX11 yX11_copy wsX11_copy) := goodIn_V (own := RL) (idx := 34) (C := RX11) (y := yX11_copy) (wm_l (wm_l (wm_l (wm_l (wm_r (wm_i 5 rfl)))))) (wm_l (wm_l (wm_l (wm_l (wm_r (wm_i 6 rfl)))))) (wm_l (wm_l (wm_l (wm_l (wm_r (wm_i 7 rfl)))))) (wm_l (wm_l (wm_l (wm_l (wm_l (wm_i 5 rfl)))))) ggL_law_X11_copy
theorem ggL_law_X10_drop : GoodIn wsL_law wsX10_drop := goodIn_s (fun _ h => (wm_r (wm_l (wm_l (wm_r (wm_r (wm_r (wm_l h)))))))) Gd_X10_drop
theorem gL_law_X10_drop : GoodIn wsL_law (wsV RL 35 RX10 yX10_drop wsX10_drop) := goodIn_V (own := RL) (idx := 35) (C := RX10) (y := yX10_drop) (wm_l (wm_l (wm_l (wm_l (wm_r (wm_i 8 rfl)))))) (wm_l (wm_l (wm_l (wm_l (wm_r (wm_i 9 rfl)))))) (wm_l (wm_l (wm_l (wm_l (wm_r (wm_i 10 rfl)))))) (wm_l (wm_l (wm_l (wm_l (wm_l (wm_i 2 rfl)))))) ggL_law_X10_drop
theorem ggL_law_X11_drop : GoodIn wsL_law wsX11_drop := goodIn_s (fun _ h => (wm_r (wm_l (wm_l (wm_r (wm_r (wm_r (wm_r h)))))))) Gd_X11_drop
theorem gL_law_X11_drop : GoodIn wsL_law (wsV RL 39 RX11 yX11_drop wsX11_drop) := goodIn_V (own := RL) (idx := 39) (C := RX11) (y := yX11_drop) (wm_l (wm_l (wm_l (wm_l (wm_r (wm_i 11 rfl)))))) (wm_l (wm_l (wm_l (wm_l (wm_r (wm_i 12 rfl)))))) (wm_l (wm_l (wm_l (wm_l (wm_r (wm_i 13 rfl)))))) (wm_l (wm_l (wm_l (wm_l (wm_l (wm_i 5 rfl)))))) ggL_law_X11_drop
def dqA (c : ByteArray) (o : Nat) (m : List UInt8) : Prop := c.data.toList.drop o = m
def dqE : List UInt8 → List UInt8 → Bool
  | [], [] => true
  | a :: as, b :: bs => match a.toNat == b.toNat with
    | true => dqE as bs
    | false => false
  | _, _ => false
theorem dqE_eq : ∀ {l m : List UInt8}, dqE l m = true → l = m := by
  intro l
  induction l with
  | nil =>
    intro m h
    cases m with
    | nil => rfl
    | cons b bs => exact absurd h (by unfold dqE; decide)
  | cons a as ih =>
    intro m h
    cases m with
    | nil => exact absurd h (by unfold dqE; decide)
    | cons b bs =>
      unfold dqE at h
      cases e : a.toNat == b.toNat with
      | true =>
        rw [e] at h
        have e2 : a = b := UInt8.toNat_inj.mp (eq_of_beq e)
        rw [e2, ih h]
      | false => rw [e] at h; exact absurd (show false = true from h) Bool.false_ne_true
theorem dq_eq {c : ByteArray} {m : List UInt8} (h : dqE c.data.toList m = true) : dqA c 0 m := dqE_eq h
theorem dq_next {c : ByteArray} {o : Nat} {m m' : List UInt8} (h : dqA c o m) (n : Nat) (hm : m.drop n = m') : dqA c (o + n) m' := by
  unfold dqA at h ⊢
  rw [← List.drop_drop, h, hm]
theorem dq1 {c : ByteArray} {o j : Nat} {m t : List UInt8} {b : UInt8} (h : dqA c o m) (hj : m.drop j = b :: t) : ∃ h' : o + j < c.size, c[o + j] = b := by
  unfold dqA at h
  have e1 : (c.data.toList.drop (o + j))[0]? = some b := by rw [← List.drop_drop, h, hj]; rfl
  rw [List.getElem?_drop, Nat.add_zero] at e1
  obtain ⟨h1, h2⟩ := List.getElem?_eq_some_iff.mp e1
  cases c with
  | mk d => cases d with
    | mk l => exact ⟨h1, h2⟩
theorem dq_u1 {α : Type} {c : ByteArray} {p : Nat} {b : UInt8} {f : Nat → Jvm.ClassFile.Decoder α} (h : ∃ h' : p < c.size, c[p] = b) : (Jvm.ClassFile.Reader.u1 >>= f).runAt c p = (f b.toNat).runAt c (p + 1) := by
  obtain ⟨h1, h2⟩ := h
  have e : (Jvm.ClassFile.Reader.u1 : Jvm.ClassFile.Decoder Nat) c p = .ok (c[p].toNat, p + 1) := by
    show (dite (p < c.size) (fun h => ((do set (p + 1); pure (c[p]'h).toNat) : Jvm.ClassFile.Decoder Nat)) (fun _ => throw (Jvm.ClassFile.HasTruncated.truncated p))) c p = _
    rw [dif_pos h1]; rfl
  show Except.bind ((Jvm.ClassFile.Reader.u1 : Jvm.ClassFile.Decoder Nat) c p) (fun a => f a.1 c a.2) = _
  rw [e, h2]; rfl
theorem dq_u2 {α : Type} {c : ByteArray} {p : Nat} {x y : UInt8} {f : Nat → Jvm.ClassFile.Decoder α} (h : ∃ h' : p < c.size, c[p] = x) (h' : ∃ h' : p + 1 < c.size, c[p + 1] = y) : (Jvm.ClassFile.Reader.u2 >>= f).runAt c p = (f (x.toNat * 256 + y.toNat)).runAt c (p + 2) := by
  have e : (Jvm.ClassFile.Reader.u2 : Jvm.ClassFile.Decoder Nat).runAt c p = .ok (x.toNat * 256 + y.toNat, p + 2) := by
    show (Jvm.ClassFile.Reader.u1 >>= fun hi => Jvm.ClassFile.Reader.u1 >>= fun lo => (pure (hi * 256 + lo) : Jvm.ClassFile.Decoder Nat)).runAt c p = _
    rw [dq_u1 h, dq_u1 h']; rfl
  show Except.bind ((Jvm.ClassFile.Reader.u2 : Jvm.ClassFile.Decoder Nat).runAt c p) (fun a => f a.1 c a.2) = _
  rw [e]; rfl
theorem dq_s2 {α : Type} {c : ByteArray} {p : Nat} {x y : UInt8} {f : Int → Jvm.ClassFile.Decoder α} (h : ∃ h' : p < c.size, c[p] = x) (h' : ∃ h' : p + 1 < c.size, c[p + 1] = y) : (Jvm.ClassFile.Reader.s2 >>= f).runAt c p = (f (Jvm.ClassFile.Reader.signed 16 (x.toNat * 256 + y.toNat))).runAt c (p + 2) := by
  have e : (Jvm.ClassFile.Reader.u2 : Jvm.ClassFile.Decoder Nat).runAt c p = .ok (x.toNat * 256 + y.toNat, p + 2) := by
    show (Jvm.ClassFile.Reader.u1 >>= fun hi => Jvm.ClassFile.Reader.u1 >>= fun lo => (pure (hi * 256 + lo) : Jvm.ClassFile.Decoder Nat)).runAt c p = _
    rw [dq_u1 h, dq_u1 h']; rfl
  show Except.bind (Except.map (fun a => (Jvm.ClassFile.Reader.signed 16 a.1, a.2)) ((Jvm.ClassFile.Reader.u2 : Jvm.ClassFile.Decoder Nat).runAt c p)) (fun a => f a.1 c a.2) = _
  rw [e]; rfl
theorem dq_dec {c : ByteArray} {p n : Nat} {ins : Instr} (h : (Jvm.ClassFile.Decoder.instr p).runAt c p = .ok (ins, p + n)) : decode c p = .ok (ins, n) := by
  unfold decode
  rw [h]
  show Except.ok (ins, p + n - p) = _
  rw [Nat.add_sub_cancel_left]
theorem dq_4 {c : ByteArray} {o : Nat} {m t : List UInt8} (h : dqA c o m) (j : Nat) (hj : m.drop j = 4 :: t) : decode c (o + j) = .ok (.iconst 1, 1) := dq_dec (by unfold Jvm.ClassFile.Decoder.instr; rw [dq_u1 (dq1 h hj)]; rfl)
theorem dq_5 {c : ByteArray} {o : Nat} {m t : List UInt8} (h : dqA c o m) (j : Nat) (hj : m.drop j = 5 :: t) : decode c (o + j) = .ok (.iconst 2, 1) := dq_dec (by unfold Jvm.ClassFile.Decoder.instr; rw [dq_u1 (dq1 h hj)]; rfl)
theorem dq_6 {c : ByteArray} {o : Nat} {m t : List UInt8} (h : dqA c o m) (j : Nat) (hj : m.drop j = 6 :: t) : decode c (o + j) = .ok (.iconst 3, 1) := dq_dec (by unfold Jvm.ClassFile.Decoder.instr; rw [dq_u1 (dq1 h hj)]; rfl)
theorem dq_7 {c : ByteArray} {o : Nat} {m t : List UInt8} (h : dqA c o m) (j : Nat) (hj : m.drop j = 7 :: t) : decode c (o + j) = .ok (.iconst 4, 1) := dq_dec (by unfold Jvm.ClassFile.Decoder.instr; rw [dq_u1 (dq1 h hj)]; rfl)
theorem dq_8 {c : ByteArray} {o : Nat} {m t : List UInt8} (h : dqA c o m) (j : Nat) (hj : m.drop j = 8 :: t) : decode c (o + j) = .ok (.iconst 5, 1) := dq_dec (by unfold Jvm.ClassFile.Decoder.instr; rw [dq_u1 (dq1 h hj)]; rfl)
theorem dq_29 {c : ByteArray} {o : Nat} {m t : List UInt8} (h : dqA c o m) (j : Nat) (hj : m.drop j = 29 :: t) : decode c (o + j) = .ok (.iload_n 3, 1) := dq_dec (by unfold Jvm.ClassFile.Decoder.instr; rw [dq_u1 (dq1 h hj)]; rfl)
theorem dq_42 {c : ByteArray} {o : Nat} {m t : List UInt8} (h : dqA c o m) (j : Nat) (hj : m.drop j = 42 :: t) : decode c (o + j) = .ok (.aload_n 0, 1) := dq_dec (by unfold Jvm.ClassFile.Decoder.instr; rw [dq_u1 (dq1 h hj)]; rfl)
theorem dq_43 {c : ByteArray} {o : Nat} {m t : List UInt8} (h : dqA c o m) (j : Nat) (hj : m.drop j = 43 :: t) : decode c (o + j) = .ok (.aload_n 1, 1) := dq_dec (by unfold Jvm.ClassFile.Decoder.instr; rw [dq_u1 (dq1 h hj)]; rfl)
theorem dq_44 {c : ByteArray} {o : Nat} {m t : List UInt8} (h : dqA c o m) (j : Nat) (hj : m.drop j = 44 :: t) : decode c (o + j) = .ok (.aload_n 2, 1) := dq_dec (by unfold Jvm.ClassFile.Decoder.instr; rw [dq_u1 (dq1 h hj)]; rfl)
theorem dq_46 {c : ByteArray} {o : Nat} {m t : List UInt8} (h : dqA c o m) (j : Nat) (hj : m.drop j = 46 :: t) : decode c (o + j) = .ok (.iaload, 1) := dq_dec (by unfold Jvm.ClassFile.Decoder.instr; rw [dq_u1 (dq1 h hj)]; rfl)
theorem dq_87 {c : ByteArray} {o : Nat} {m t : List UInt8} (h : dqA c o m) (j : Nat) (hj : m.drop j = 87 :: t) : decode c (o + j) = .ok (.pop, 1) := dq_dec (by unfold Jvm.ClassFile.Decoder.instr; rw [dq_u1 (dq1 h hj)]; rfl)
theorem dq_96 {c : ByteArray} {o : Nat} {m t : List UInt8} (h : dqA c o m) (j : Nat) (hj : m.drop j = 96 :: t) : decode c (o + j) = .ok (.iadd, 1) := dq_dec (by unfold Jvm.ClassFile.Decoder.instr; rw [dq_u1 (dq1 h hj)]; rfl)
theorem dq_182 {c : ByteArray} {o : Nat} {m t : List UInt8} {x y : UInt8} (h : dqA c o m) (j : Nat) (hj : m.drop j = 182 :: x :: y :: t) (n : Nat) (hn : x.toNat * 256 + y.toNat = n) : decode c (o + j) = .ok (.invokevirtual n, 3) := by
  have e1 : m.drop (j + 1) = x :: y :: t := by rw [← List.drop_drop, hj]; rfl
  have e2 : m.drop (j + 2) = y :: t := by rw [← List.drop_drop, hj]; rfl
  have a1 : ∃ h' : o + j + 1 < c.size, c[o + j + 1] = x := dq1 (j := j + 1) h e1
  have a2 : ∃ h' : o + j + 1 + 1 < c.size, c[o + j + 1 + 1] = y := dq1 (j := j + 2) h e2
  refine dq_dec ?_
  unfold Jvm.ClassFile.Decoder.instr
  rw [dq_u1 (dq1 h hj)]
  show (Jvm.ClassFile.Reader.u2 >>= fun i => (pure (.invokevirtual i) : Jvm.ClassFile.Decoder Instr)).runAt c (o + j + 1) = _
  rw [dq_u2 a1 a2, hn]
  rfl
theorem dq_167 {c : ByteArray} {o : Nat} {m t : List UInt8} {x y : UInt8} (h : dqA c o m) (j : Nat) (hj : m.drop j = 167 :: x :: y :: t) (n : Int) (hn : Jvm.ClassFile.Reader.signed 16 (x.toNat * 256 + y.toNat) = n) : decode c (o + j) = .ok (.goto n, 3) := by
  have e1 : m.drop (j + 1) = x :: y :: t := by rw [← List.drop_drop, hj]; rfl
  have e2 : m.drop (j + 2) = y :: t := by rw [← List.drop_drop, hj]; rfl
  have a1 : ∃ h' : o + j + 1 < c.size, c[o + j + 1] = x := dq1 (j := j + 1) h e1
  have a2 : ∃ h' : o + j + 1 + 1 < c.size, c[o + j + 1 + 1] = y := dq1 (j := j + 2) h e2
  refine dq_dec ?_
  unfold Jvm.ClassFile.Decoder.instr
  rw [dq_u1 (dq1 h hj)]
  show (Jvm.ClassFile.Reader.s2 >>= fun i => (pure (.goto i) : Jvm.ClassFile.Decoder Instr)).runAt c (o + j + 1) = _
  rw [dq_s2 a1 a2, hn]
  rfl
def sL_69 : List UInt8 := 0xf9 :: 0xa5 :: 0x04 :: 0xac :: []
def sL_68 : List UInt8 := 0xb6 :: 0x00 :: 0xb1 :: 0x57 :: 0xa7 :: 0x00 :: 0x10 :: 0x2b :: 0xb6 :: 0x00 :: 0xb2 :: 0x2c :: 0xb6 :: 0x00 :: 0xb5 :: 0x9f :: 0x00 :: 0x05 :: 0x03 :: 0xac :: 0x84 :: 0x03 :: 0x06 :: 0xa7 :: sL_69
def sL_67 : List UInt8 := 0x2e :: 0xb6 :: 0x00 :: 0xad :: 0x57 :: 0xa7 :: 0x00 :: 0x27 :: 0x2b :: 0x2a :: 0x1d :: 0x04 :: 0x60 :: 0x2e :: 0xb6 :: 0x00 :: 0xae :: 0x57 :: 0x2c :: 0x2a :: 0x1d :: 0x04 :: 0x60 :: 0x2e :: sL_68
def sL_66 : List UInt8 := 0x60 :: 0x2e :: 0xb6 :: 0x00 :: 0xa9 :: 0x57 :: 0xa7 :: 0x00 :: 0x3e :: 0x2b :: 0x2a :: 0x1d :: 0x04 :: 0x60 :: 0x2e :: 0xb6 :: 0x00 :: 0xaa :: 0x57 :: 0x2c :: 0x2a :: 0x1d :: 0x04 :: 0x60 :: sL_67
def sL_65 : List UInt8 := 0x2b :: 0x2a :: 0x1d :: 0x04 :: 0x60 :: 0x2e :: 0x2a :: 0x1d :: 0x05 :: 0x60 :: 0x2e :: 0xb6 :: 0x00 :: 0xa6 :: 0x57 :: 0x2c :: 0x2a :: 0x1d :: 0x04 :: 0x60 :: 0x2e :: 0x2a :: 0x1d :: 0x05 :: sL_66
def sL_64 : List UInt8 := 0x60 :: 0x2e :: 0xb6 :: 0x00 :: 0xa2 :: 0x57 :: 0x2c :: 0x2a :: 0x1d :: 0x04 :: 0x60 :: 0x2e :: 0x2a :: 0x1d :: 0x05 :: 0x60 :: 0x2e :: 0xb6 :: 0x00 :: 0xa5 :: 0x57 :: 0xa7 :: 0x00 :: 0x5f :: sL_65
def sL_63 : List UInt8 := 0x9e :: 0x57 :: 0x2c :: 0x2a :: 0x1d :: 0x04 :: 0x60 :: 0x2e :: 0xb6 :: 0x00 :: 0xa1 :: 0x57 :: 0xa7 :: 0x00 :: 0x80 :: 0x2b :: 0x2a :: 0x1d :: 0x04 :: 0x60 :: 0x2e :: 0x2a :: 0x1d :: 0x05 :: sL_64
def sL_62 : List UInt8 := 0x00 :: 0x9a :: 0x57 :: 0x2c :: 0x2a :: 0x1d :: 0x04 :: 0x60 :: 0x2e :: 0xb6 :: 0x00 :: 0x9d :: 0x57 :: 0xa7 :: 0x00 :: 0x97 :: 0x2b :: 0x2a :: 0x1d :: 0x04 :: 0x60 :: 0x2e :: 0xb6 :: 0x00 :: sL_63
def sL_61 : List UInt8 := 0x2a :: 0x1d :: 0x04 :: 0x60 :: 0x2e :: 0x2a :: 0x1d :: 0x05 :: 0x60 :: 0x2e :: 0xb6 :: 0x00 :: 0x99 :: 0x57 :: 0xa7 :: 0x00 :: 0xae :: 0x2b :: 0x2a :: 0x1d :: 0x04 :: 0x60 :: 0x2e :: 0xb6 :: sL_62
def sL_60 : List UInt8 := 0x2e :: 0xb6 :: 0x00 :: 0x95 :: 0x57 :: 0xa7 :: 0x00 :: 0xcf :: 0x2b :: 0x2a :: 0x1d :: 0x04 :: 0x60 :: 0x2e :: 0x2a :: 0x1d :: 0x05 :: 0x60 :: 0x2e :: 0xb6 :: 0x00 :: 0x96 :: 0x57 :: 0x2c :: sL_61
def sL_59 : List UInt8 := 0x2a :: 0x1d :: 0x06 :: 0x60 :: 0x2e :: 0xb6 :: 0x00 :: 0x92 :: 0x57 :: 0x2c :: 0x2a :: 0x1d :: 0x04 :: 0x60 :: 0x2e :: 0x2a :: 0x1d :: 0x05 :: 0x60 :: 0x2e :: 0x2a :: 0x1d :: 0x06 :: 0x60 :: sL_60
def sL_58 : List UInt8 := 0x2c :: 0x2a :: 0x1d :: 0x04 :: 0x60 :: 0x2e :: 0xb6 :: 0x00 :: 0x91 :: 0x57 :: 0xa7 :: 0x00 :: 0xfa :: 0x2b :: 0x2a :: 0x1d :: 0x04 :: 0x60 :: 0x2e :: 0x2a :: 0x1d :: 0x05 :: 0x60 :: 0x2e :: sL_59
def sL_57 : List UInt8 := 0x60 :: 0x2e :: 0x2a :: 0x1d :: 0x07 :: 0x60 :: 0x2e :: 0xb6 :: 0x00 :: 0x8d :: 0x57 :: 0xa7 :: 0x01 :: 0x11 :: 0x2b :: 0x2a :: 0x1d :: 0x04 :: 0x60 :: 0x2e :: 0xb6 :: 0x00 :: 0x8e :: 0x57 :: sL_58
def sL_56 : List UInt8 := 0x2e :: 0x2a :: 0x1d :: 0x07 :: 0x60 :: 0x2e :: 0xb6 :: 0x00 :: 0x8a :: 0x57 :: 0x2c :: 0x2a :: 0x1d :: 0x04 :: 0x60 :: 0x2e :: 0x2a :: 0x1d :: 0x05 :: 0x60 :: 0x2e :: 0x2a :: 0x1d :: 0x06 :: sL_57
def sL_55 : List UInt8 := 0x60 :: 0x2e :: 0xb6 :: 0x00 :: 0x89 :: 0x57 :: 0xa7 :: 0x01 :: 0x46 :: 0x2b :: 0x2a :: 0x1d :: 0x04 :: 0x60 :: 0x2e :: 0x2a :: 0x1d :: 0x05 :: 0x60 :: 0x2e :: 0x2a :: 0x1d :: 0x06 :: 0x60 :: sL_56
def sL_54 : List UInt8 := 0x2e :: 0xb6 :: 0x00 :: 0x86 :: 0x57 :: 0x2c :: 0x2a :: 0x1d :: 0x04 :: 0x60 :: 0x2e :: 0x2a :: 0x1d :: 0x05 :: 0x60 :: 0x2e :: 0x2a :: 0x1d :: 0x06 :: 0x60 :: 0x2e :: 0x2a :: 0x1d :: 0x07 :: sL_55
def sL_53 : List UInt8 := 0x57 :: 0xa7 :: 0x01 :: 0x7b :: 0x2b :: 0x2a :: 0x1d :: 0x04 :: 0x60 :: 0x2e :: 0x2a :: 0x1d :: 0x05 :: 0x60 :: 0x2e :: 0x2a :: 0x1d :: 0x06 :: 0x60 :: 0x2e :: 0x2a :: 0x1d :: 0x07 :: 0x60 :: sL_54
def sL_52 : List UInt8 := 0x2e :: 0x2a :: 0x1d :: 0x05 :: 0x60 :: 0x2e :: 0xb6 :: 0x00 :: 0x82 :: 0x57 :: 0x2c :: 0x2a :: 0x1d :: 0x04 :: 0x60 :: 0x2e :: 0x2a :: 0x1d :: 0x05 :: 0x60 :: 0x2e :: 0xb6 :: 0x00 :: 0x85 :: sL_53
def sL_51 : List UInt8 := 0x60 :: 0x2e :: 0x2a :: 0x1d :: 0x05 :: 0x60 :: 0x2e :: 0x2a :: 0x1d :: 0x06 :: 0x60 :: 0x2e :: 0xb6 :: 0x00 :: 0x81 :: 0x57 :: 0xa7 :: 0x01 :: 0x9c :: 0x2b :: 0x2a :: 0x1d :: 0x04 :: 0x60 :: sL_52
def sL_50 : List UInt8 := 0x2b :: 0x2a :: 0x1d :: 0x04 :: 0x60 :: 0x2e :: 0x2a :: 0x1d :: 0x05 :: 0x60 :: 0x2e :: 0x2a :: 0x1d :: 0x06 :: 0x60 :: 0x2e :: 0xb6 :: 0x00 :: 0x7e :: 0x57 :: 0x2c :: 0x2a :: 0x1d :: 0x04 :: sL_51
def sL_49 : List UInt8 := 0x60 :: 0x2e :: 0xb6 :: 0x00 :: 0x7a :: 0x57 :: 0x2c :: 0x2a :: 0x1d :: 0x04 :: 0x60 :: 0x2e :: 0x2a :: 0x1d :: 0x05 :: 0x60 :: 0x2e :: 0xb6 :: 0x00 :: 0x7d :: 0x57 :: 0xa7 :: 0x01 :: 0xc7 :: sL_50
def sL_48 : List UInt8 := 0x04 :: 0x60 :: 0x2e :: 0x2a :: 0x1d :: 0x05 :: 0x60 :: 0x2e :: 0xb6 :: 0x00 :: 0x79 :: 0x57 :: 0xa7 :: 0x01 :: 0xe8 :: 0x2b :: 0x2a :: 0x1d :: 0x04 :: 0x60 :: 0x2e :: 0x2a :: 0x1d :: 0x05 :: sL_49
def sL_47 : List UInt8 := 0x00 :: 0x75 :: 0x57 :: 0xa7 :: 0x02 :: 0x09 :: 0x2b :: 0x2a :: 0x1d :: 0x04 :: 0x60 :: 0x2e :: 0x2a :: 0x1d :: 0x05 :: 0x60 :: 0x2e :: 0xb6 :: 0x00 :: 0x76 :: 0x57 :: 0x2c :: 0x2a :: 0x1d :: sL_48
def sL_46 : List UInt8 := 0x06 :: 0x60 :: 0x2e :: 0xb6 :: 0x00 :: 0x72 :: 0x57 :: 0x2c :: 0x2a :: 0x1d :: 0x04 :: 0x60 :: 0x2e :: 0x2a :: 0x1d :: 0x05 :: 0x60 :: 0x2e :: 0x2a :: 0x1d :: 0x06 :: 0x60 :: 0x2e :: 0xb6 :: sL_47
def sL_45 : List UInt8 := 0x1d :: 0x05 :: 0x60 :: 0x2e :: 0xb6 :: 0x00 :: 0x71 :: 0x57 :: 0xa7 :: 0x02 :: 0x34 :: 0x2b :: 0x2a :: 0x1d :: 0x04 :: 0x60 :: 0x2e :: 0x2a :: 0x1d :: 0x05 :: 0x60 :: 0x2e :: 0x2a :: 0x1d :: sL_46
def sL_44 : List UInt8 := 0x02 :: 0x55 :: 0x2b :: 0x2a :: 0x1d :: 0x04 :: 0x60 :: 0x2e :: 0x2a :: 0x1d :: 0x05 :: 0x60 :: 0x2e :: 0xb6 :: 0x00 :: 0x6e :: 0x57 :: 0x2c :: 0x2a :: 0x1d :: 0x04 :: 0x60 :: 0x2e :: 0x2a :: sL_45
def sL_43 : List UInt8 := 0x1d :: 0x04 :: 0x60 :: 0x2e :: 0x2a :: 0x1d :: 0x05 :: 0x60 :: 0x2e :: 0x2a :: 0x1d :: 0x06 :: 0x60 :: 0x2e :: 0x2a :: 0x1d :: 0x07 :: 0x60 :: 0x2e :: 0xb6 :: 0x00 :: 0x6d :: 0x57 :: 0xa7 :: sL_44
def sL_42 : List UInt8 := 0x04 :: 0x60 :: 0x2e :: 0x2a :: 0x1d :: 0x05 :: 0x60 :: 0x2e :: 0x2a :: 0x1d :: 0x06 :: 0x60 :: 0x2e :: 0x2a :: 0x1d :: 0x07 :: 0x60 :: 0x2e :: 0xb6 :: 0x00 :: 0x6a :: 0x57 :: 0x2c :: 0x2a :: sL_43
def sL_41 : List UInt8 := 0x2c :: 0xb6 :: 0x00 :: 0x65 :: 0x57 :: 0xa7 :: 0x02 :: 0x97 :: 0x2b :: 0xb6 :: 0x00 :: 0x66 :: 0x57 :: 0x2c :: 0xb6 :: 0x00 :: 0x69 :: 0x57 :: 0xa7 :: 0x02 :: 0x8a :: 0x2b :: 0x2a :: 0x1d :: sL_42
def sL_40 : List UInt8 := 0x2e :: 0x85 :: 0x14 :: 0x00 :: 0x5a :: 0x7f :: 0x81 :: 0x2a :: 0x1d :: 0x06 :: 0x60 :: 0x2e :: 0xb6 :: 0x00 :: 0x60 :: 0x57 :: 0xa7 :: 0x02 :: 0xa4 :: 0x2b :: 0xb6 :: 0x00 :: 0x61 :: 0x57 :: sL_41
def sL_39 : List UInt8 := 0x81 :: 0x2a :: 0x1d :: 0x06 :: 0x60 :: 0x2e :: 0xb6 :: 0x00 :: 0x5c :: 0x57 :: 0x2c :: 0x2a :: 0x1d :: 0x04 :: 0x60 :: 0x2e :: 0x85 :: 0x10 :: 0x20 :: 0x79 :: 0x2a :: 0x1d :: 0x05 :: 0x60 :: sL_40
def sL_38 : List UInt8 := 0x57 :: 0xa7 :: 0x02 :: 0xe3 :: 0x2b :: 0x2a :: 0x1d :: 0x04 :: 0x60 :: 0x2e :: 0x85 :: 0x10 :: 0x20 :: 0x79 :: 0x2a :: 0x1d :: 0x05 :: 0x60 :: 0x2e :: 0x85 :: 0x14 :: 0x00 :: 0x5a :: 0x7f :: sL_39
def sL_37 : List UInt8 := 0x2e :: 0x2a :: 0x1d :: 0x05 :: 0x60 :: 0x2e :: 0x2a :: 0x1d :: 0x06 :: 0x60 :: 0x2e :: 0x2a :: 0x1d :: 0x07 :: 0x60 :: 0x2e :: 0x2a :: 0x1d :: 0x08 :: 0x60 :: 0x2e :: 0xb6 :: 0x00 :: 0x59 :: sL_38
def sL_36 : List UInt8 := 0x2a :: 0x1d :: 0x06 :: 0x60 :: 0x2e :: 0x2a :: 0x1d :: 0x07 :: 0x60 :: 0x2e :: 0x2a :: 0x1d :: 0x08 :: 0x60 :: 0x2e :: 0xb6 :: 0x00 :: 0x56 :: 0x57 :: 0x2c :: 0x2a :: 0x1d :: 0x04 :: 0x60 :: sL_37
def sL_35 : List UInt8 := 0x2e :: 0x2a :: 0x1d :: 0x08 :: 0x60 :: 0x2e :: 0xb6 :: 0x00 :: 0x55 :: 0x57 :: 0xa7 :: 0x03 :: 0x22 :: 0x2b :: 0x2a :: 0x1d :: 0x04 :: 0x60 :: 0x2e :: 0x2a :: 0x1d :: 0x05 :: 0x60 :: 0x2e :: sL_36
def sL_34 : List UInt8 := 0xb6 :: 0x00 :: 0x52 :: 0x57 :: 0x2c :: 0x2a :: 0x1d :: 0x04 :: 0x60 :: 0x2e :: 0x2a :: 0x1d :: 0x05 :: 0x60 :: 0x2e :: 0x2a :: 0x1d :: 0x06 :: 0x60 :: 0x2e :: 0x2a :: 0x1d :: 0x07 :: 0x60 :: sL_35
def sL_33 : List UInt8 := 0x1d :: 0x04 :: 0x60 :: 0x2e :: 0x2a :: 0x1d :: 0x05 :: 0x60 :: 0x2e :: 0x2a :: 0x1d :: 0x06 :: 0x60 :: 0x2e :: 0x2a :: 0x1d :: 0x07 :: 0x60 :: 0x2e :: 0x2a :: 0x1d :: 0x08 :: 0x60 :: 0x2e :: sL_34
def sL_32 : List UInt8 := 0xb6 :: 0x00 :: 0x4e :: 0x57 :: 0x2c :: 0x2a :: 0x1d :: 0x04 :: 0x60 :: 0x2e :: 0x2a :: 0x1d :: 0x05 :: 0x60 :: 0x2e :: 0xb6 :: 0x00 :: 0x51 :: 0x57 :: 0xa7 :: 0x03 :: 0x61 :: 0x2b :: 0x2a :: sL_33
def sL_31 : List UInt8 := 0x2e :: 0x2a :: 0x1d :: 0x06 :: 0x60 :: 0x2e :: 0xb6 :: 0x00 :: 0x4d :: 0x57 :: 0xa7 :: 0x03 :: 0x82 :: 0x2b :: 0x2a :: 0x1d :: 0x04 :: 0x60 :: 0x2e :: 0x2a :: 0x1d :: 0x05 :: 0x60 :: 0x2e :: sL_32
def sL_30 : List UInt8 := 0x2a :: 0x1d :: 0x05 :: 0x60 :: 0x2e :: 0x2a :: 0x1d :: 0x06 :: 0x60 :: 0x2e :: 0xb6 :: 0x00 :: 0x4a :: 0x57 :: 0x2c :: 0x2a :: 0x1d :: 0x04 :: 0x60 :: 0x2e :: 0x2a :: 0x1d :: 0x05 :: 0x60 :: sL_31
def sL_29 : List UInt8 := 0x2e :: 0x2a :: 0x1d :: 0x07 :: 0x60 :: 0x2e :: 0x2a :: 0x1d :: 0x08 :: 0x60 :: 0x2e :: 0xb6 :: 0x00 :: 0x49 :: 0x57 :: 0xa7 :: 0x03 :: 0xad :: 0x2b :: 0x2a :: 0x1d :: 0x04 :: 0x60 :: 0x2e :: sL_30
def sL_28 : List UInt8 := 0x2a :: 0x1d :: 0x08 :: 0x60 :: 0x2e :: 0xb6 :: 0x00 :: 0x46 :: 0x57 :: 0x2c :: 0x2a :: 0x1d :: 0x04 :: 0x60 :: 0x2e :: 0x2a :: 0x1d :: 0x05 :: 0x60 :: 0x2e :: 0x2a :: 0x1d :: 0x06 :: 0x60 :: sL_29
def sL_27 : List UInt8 := 0xa7 :: 0x03 :: 0xec :: 0x2b :: 0x2a :: 0x1d :: 0x04 :: 0x60 :: 0x2e :: 0x2a :: 0x1d :: 0x05 :: 0x60 :: 0x2e :: 0x2a :: 0x1d :: 0x06 :: 0x60 :: 0x2e :: 0x2a :: 0x1d :: 0x07 :: 0x60 :: 0x2e :: sL_28
def sL_26 : List UInt8 := 0x2a :: 0x1d :: 0x05 :: 0x60 :: 0x2e :: 0xb6 :: 0x00 :: 0x42 :: 0x57 :: 0x2c :: 0x2a :: 0x1d :: 0x04 :: 0x60 :: 0x2e :: 0x2a :: 0x1d :: 0x05 :: 0x60 :: 0x2e :: 0xb6 :: 0x00 :: 0x45 :: 0x57 :: sL_27
def sL_25 : List UInt8 := 0x2e :: 0xb6 :: 0x00 :: 0x3e :: 0x57 :: 0x2c :: 0x2a :: 0x1d :: 0x04 :: 0x60 :: 0x2e :: 0xb6 :: 0x00 :: 0x41 :: 0x57 :: 0xa7 :: 0x04 :: 0x0d :: 0x2b :: 0x2a :: 0x1d :: 0x04 :: 0x60 :: 0x2e :: sL_26
def sL_24 : List UInt8 := 0x57 :: 0x2c :: 0x2a :: 0x1d :: 0x04 :: 0x60 :: 0x2e :: 0x2a :: 0x1d :: 0x05 :: 0x60 :: 0x2e :: 0xb6 :: 0x00 :: 0x3d :: 0x57 :: 0xa7 :: 0x04 :: 0x24 :: 0x2b :: 0x2a :: 0x1d :: 0x04 :: 0x60 :: sL_25
def sL_23 : List UInt8 := 0x06 :: 0x60 :: 0x2e :: 0xb6 :: 0x00 :: 0x38 :: 0x57 :: 0xa7 :: 0x04 :: 0x45 :: 0x2b :: 0x2a :: 0x1d :: 0x04 :: 0x60 :: 0x2e :: 0x2a :: 0x1d :: 0x05 :: 0x60 :: 0x2e :: 0xb6 :: 0x00 :: 0x39 :: sL_24
def sL_22 : List UInt8 := 0x60 :: 0x2e :: 0x2a :: 0x1d :: 0x06 :: 0x60 :: 0x2e :: 0xb6 :: 0x00 :: 0x35 :: 0x57 :: 0x2c :: 0x2a :: 0x1d :: 0x04 :: 0x60 :: 0x2e :: 0x2a :: 0x1d :: 0x05 :: 0x60 :: 0x2e :: 0x2a :: 0x1d :: sL_23
def sL_21 : List UInt8 := 0x05 :: 0x60 :: 0x2e :: 0x2a :: 0x1d :: 0x06 :: 0x60 :: 0x2e :: 0xb6 :: 0x00 :: 0x34 :: 0x57 :: 0xa7 :: 0x04 :: 0x70 :: 0x2b :: 0x2a :: 0x1d :: 0x04 :: 0x60 :: 0x2e :: 0x2a :: 0x1d :: 0x05 :: sL_22
def sL_20 : List UInt8 := 0x60 :: 0x2e :: 0x2a :: 0x1d :: 0x05 :: 0x60 :: 0x2e :: 0x2a :: 0x1d :: 0x06 :: 0x60 :: 0x2e :: 0xb6 :: 0x00 :: 0x31 :: 0x57 :: 0x2c :: 0x2a :: 0x1d :: 0x04 :: 0x60 :: 0x2e :: 0x2a :: 0x1d :: sL_21
def sL_19 : List UInt8 := 0x04 :: 0x60 :: 0x2e :: 0x2a :: 0x1d :: 0x05 :: 0x60 :: 0x2e :: 0x2a :: 0x1d :: 0x06 :: 0x60 :: 0x2e :: 0xb6 :: 0x00 :: 0x30 :: 0x57 :: 0xa7 :: 0x04 :: 0x9b :: 0x2b :: 0x2a :: 0x1d :: 0x04 :: sL_20
def sL_18 : List UInt8 := 0xc6 :: 0x2b :: 0x2a :: 0x1d :: 0x04 :: 0x60 :: 0x2e :: 0x2a :: 0x1d :: 0x05 :: 0x60 :: 0x2e :: 0x2a :: 0x1d :: 0x06 :: 0x60 :: 0x2e :: 0xb6 :: 0x00 :: 0x2d :: 0x57 :: 0x2c :: 0x2a :: 0x1d :: sL_19
def sL_17 : List UInt8 := 0x04 :: 0x60 :: 0x2e :: 0x2a :: 0x1d :: 0x05 :: 0x60 :: 0x2e :: 0x2a :: 0x1d :: 0x06 :: 0x60 :: 0x2e :: 0x2a :: 0x1d :: 0x07 :: 0x60 :: 0x2e :: 0xb6 :: 0x00 :: 0x2c :: 0x57 :: 0xa7 :: 0x04 :: sL_18
def sL_16 : List UInt8 := 0x60 :: 0x2e :: 0x2a :: 0x1d :: 0x05 :: 0x60 :: 0x2e :: 0x2a :: 0x1d :: 0x06 :: 0x60 :: 0x2e :: 0x2a :: 0x1d :: 0x07 :: 0x60 :: 0x2e :: 0xb6 :: 0x00 :: 0x28 :: 0x57 :: 0x2c :: 0x2a :: 0x1d :: sL_17
def sL_15 : List UInt8 := 0x04 :: 0x60 :: 0x2e :: 0xb6 :: 0x00 :: 0x23 :: 0x57 :: 0x2c :: 0x2a :: 0x1d :: 0x04 :: 0x60 :: 0x2e :: 0xb6 :: 0x00 :: 0x27 :: 0x57 :: 0xa7 :: 0x04 :: 0xfb :: 0x2b :: 0x2a :: 0x1d :: 0x04 :: sL_16
def sL_14 : List UInt8 := 0x1d :: 0x06 :: 0x60 :: 0x2e :: 0x2a :: 0x1d :: 0x07 :: 0x60 :: 0x2e :: 0x2a :: 0x1d :: 0x08 :: 0x60 :: 0x2e :: 0xb6 :: 0x00 :: 0x22 :: 0x57 :: 0xa7 :: 0x05 :: 0x12 :: 0x2b :: 0x2a :: 0x1d :: sL_15
def sL_13 : List UInt8 := 0x07 :: 0x60 :: 0x2e :: 0x2a :: 0x1d :: 0x08 :: 0x60 :: 0x2e :: 0xb6 :: 0x00 :: 0x1e :: 0x57 :: 0x2c :: 0x2a :: 0x1d :: 0x04 :: 0x60 :: 0x2e :: 0x2a :: 0x1d :: 0x05 :: 0x60 :: 0x2e :: 0x2a :: sL_14
def sL_12 : List UInt8 := 0x00 :: 0x1d :: 0x57 :: 0xa7 :: 0x05 :: 0x51 :: 0x2b :: 0x2a :: 0x1d :: 0x04 :: 0x60 :: 0x2e :: 0x2a :: 0x1d :: 0x05 :: 0x60 :: 0x2e :: 0x2a :: 0x1d :: 0x06 :: 0x60 :: 0x2e :: 0x2a :: 0x1d :: sL_13
def sL_11 : List UInt8 := 0x06 :: 0x60 :: 0x2e :: 0xb6 :: 0x00 :: 0x1a :: 0x57 :: 0x2c :: 0x2a :: 0x1d :: 0x04 :: 0x60 :: 0x2e :: 0x2a :: 0x1d :: 0x05 :: 0x60 :: 0x2e :: 0x2a :: 0x1d :: 0x06 :: 0x60 :: 0x2e :: 0xb6 :: sL_12
def sL_10 : List UInt8 := 0x1d :: 0x06 :: 0x60 :: 0x2e :: 0xb6 :: 0x00 :: 0x19 :: 0x57 :: 0xa7 :: 0x05 :: 0x7c :: 0x2b :: 0x2a :: 0x1d :: 0x04 :: 0x60 :: 0x2e :: 0x2a :: 0x1d :: 0x05 :: 0x60 :: 0x2e :: 0x2a :: 0x1d :: sL_11
def sL_9 : List UInt8 := 0x05 :: 0x60 :: 0x2e :: 0x2a :: 0x1d :: 0x06 :: 0x60 :: 0x2e :: 0xb6 :: 0x00 :: 0x15 :: 0x57 :: 0x2c :: 0x2a :: 0x1d :: 0x04 :: 0x60 :: 0x2e :: 0x2a :: 0x1d :: 0x05 :: 0x60 :: 0x2e :: 0x2a :: sL_10
def sL_8 : List UInt8 := 0x00 :: 0x00 :: 0x05 :: 0xed :: 0x00 :: 0x00 :: 0x06 :: 0x0e :: 0x00 :: 0x00 :: 0x06 :: 0x25 :: 0x00 :: 0x00 :: 0x06 :: 0x3c :: 0x2b :: 0x2a :: 0x1d :: 0x04 :: 0x60 :: 0x2e :: 0x2a :: 0x1d :: sL_9
def sL_7 : List UInt8 := 0x00 :: 0x00 :: 0x05 :: 0x3b :: 0x00 :: 0x00 :: 0x05 :: 0x52 :: 0x00 :: 0x00 :: 0x05 :: 0x7d :: 0x00 :: 0x00 :: 0x05 :: 0x9e :: 0x00 :: 0x00 :: 0x05 :: 0xb5 :: 0x00 :: 0x00 :: 0x05 :: 0xcc :: sL_8
def sL_6 : List UInt8 := 0x00 :: 0x00 :: 0x04 :: 0x43 :: 0x00 :: 0x00 :: 0x04 :: 0x64 :: 0x00 :: 0x00 :: 0x04 :: 0x85 :: 0x00 :: 0x00 :: 0x04 :: 0xb0 :: 0x00 :: 0x00 :: 0x04 :: 0xd1 :: 0x00 :: 0x00 :: 0x05 :: 0x06 :: sL_7
def sL_5 : List UInt8 := 0x00 :: 0x00 :: 0x03 :: 0x69 :: 0x00 :: 0x00 :: 0x03 :: 0xa8 :: 0x00 :: 0x00 :: 0x03 :: 0xb5 :: 0x00 :: 0x00 :: 0x03 :: 0xc2 :: 0x00 :: 0x00 :: 0x03 :: 0xf7 :: 0x00 :: 0x00 :: 0x04 :: 0x18 :: sL_6
def sL_4 : List UInt8 := 0x00 :: 0x00 :: 0x02 :: 0x3f :: 0x00 :: 0x00 :: 0x02 :: 0x60 :: 0x00 :: 0x00 :: 0x02 :: 0x9f :: 0x00 :: 0x00 :: 0x02 :: 0xca :: 0x00 :: 0x00 :: 0x02 :: 0xeb :: 0x00 :: 0x00 :: 0x03 :: 0x2a :: sL_5
def sL_3 : List UInt8 := 0x00 :: 0x00 :: 0x01 :: 0x51 :: 0x00 :: 0x00 :: 0x01 :: 0x86 :: 0x00 :: 0x00 :: 0x01 :: 0xb1 :: 0x00 :: 0x00 :: 0x01 :: 0xdc :: 0x00 :: 0x00 :: 0x02 :: 0x07 :: 0x00 :: 0x00 :: 0x02 :: 0x28 :: sL_4
def sL_2 : List UInt8 := 0x00 :: 0x00 :: 0x00 :: 0x00 :: 0x00 :: 0x00 :: 0x00 :: 0x25 :: 0x00 :: 0x00 :: 0x00 :: 0xa5 :: 0x00 :: 0x00 :: 0x00 :: 0xd0 :: 0x00 :: 0x00 :: 0x00 :: 0xfb :: 0x00 :: 0x00 :: 0x01 :: 0x3a :: sL_3
def sL_1 : List UInt8 := 0x14 :: 0x4d :: 0x04 :: 0x3e :: 0x1d :: 0x2a :: 0xbe :: 0x10 :: 0x06 :: 0x64 :: 0xa3 :: 0x06 :: 0x58 :: 0x2a :: 0x1d :: 0x2e :: 0x10 :: 0x3f :: 0x7e :: 0xaa :: 0x00 :: 0x00 :: 0x06 :: 0x49 :: sL_2
def sL_0 : List UInt8 := 0xbb :: 0x00 :: 0x07 :: 0x59 :: 0x2a :: 0x03 :: 0xb8 :: 0x00 :: 0x09 :: 0xb7 :: 0x00 :: 0x0f :: 0x4c :: 0xbb :: 0x00 :: 0x12 :: 0x59 :: 0x2a :: 0x03 :: 0xb8 :: 0x00 :: 0x09 :: 0xb7 :: 0x00 :: sL_1
theorem sB_0 : dqA cL_law 0 sL_0 := dq_eq (by decide +kernel)
theorem sB_1 : dqA cL_law 24 sL_1 := dq_next sB_0 24 rfl
theorem sB_2 : dqA cL_law 48 sL_2 := dq_next sB_1 24 rfl
theorem sB_3 : dqA cL_law 72 sL_3 := dq_next sB_2 24 rfl
theorem sB_4 : dqA cL_law 96 sL_4 := dq_next sB_3 24 rfl
theorem sB_5 : dqA cL_law 120 sL_5 := dq_next sB_4 24 rfl
theorem sB_6 : dqA cL_law 144 sL_6 := dq_next sB_5 24 rfl
theorem sB_7 : dqA cL_law 168 sL_7 := dq_next sB_6 24 rfl
theorem sB_8 : dqA cL_law 192 sL_8 := dq_next sB_7 24 rfl
theorem sB_9 : dqA cL_law 216 sL_9 := dq_next sB_8 24 rfl
theorem sB_10 : dqA cL_law 240 sL_10 := dq_next sB_9 24 rfl
theorem sB_11 : dqA cL_law 264 sL_11 := dq_next sB_10 24 rfl
theorem sB_12 : dqA cL_law 288 sL_12 := dq_next sB_11 24 rfl
theorem sB_13 : dqA cL_law 312 sL_13 := dq_next sB_12 24 rfl
theorem sB_14 : dqA cL_law 336 sL_14 := dq_next sB_13 24 rfl
theorem sB_15 : dqA cL_law 360 sL_15 := dq_next sB_14 24 rfl
theorem dL_law_all2 : decode cL_law 39 = .ok (.iaload, 1) ∧ decode cL_law 40 = .ok (.bipush 63, 2) ∧ decode cL_law 42 = .ok (.iand, 1) ∧ decode cL_law 43 = .ok (.tableswitch 1609 0 37 #[165, 208, 251, 314, 337, 390, 433, 476, 519, 552, 575, 608, 671, 714, 747, 810, 873, 936, 949, 962, 1015, 1048, 1091, 1124, 1157, 1200, 1233, 1286, 1339, 1362, 1405, 1438, 1461, 1484, 1517, 1550, 1573, 1596], 165) ∧ decode cL_law 208 = .ok (.aload_n 1, 1) ∧ decode cL_law 209 = .ok (.aload_n 0, 1) ∧ decode cL_law 210 = .ok (.iload_n 3, 1) ∧ decode cL_law 211 = .ok (.iconst 1, 1) ∧ decode cL_law 212 = .ok (.iadd, 1) ∧ decode cL_law 213 = .ok (.iaload, 1) ∧ decode cL_law 214 = .ok (.aload_n 0, 1) ∧ decode cL_law 215 = .ok (.iload_n 3, 1) := ⟨dq_46 sB_1 15 rfl, by decide +kernel, by decide +kernel, by decide +kernel, dq_43 sB_8 16 rfl, dq_42 sB_8 17 rfl, dq_29 sB_8 18 rfl, dq_4 sB_8 19 rfl, dq_96 sB_8 20 rfl, dq_46 sB_8 21 rfl, dq_42 sB_8 22 rfl, dq_29 sB_8 23 rfl⟩
theorem dL_law_208 : decode cL_law 208 = .ok (.aload_n 1, 1) := dL_law_all2.2.2.2.2.1
theorem dL_law_209 : decode cL_law 209 = .ok (.aload_n 0, 1) := dL_law_all2.2.2.2.2.2.1
theorem dL_law_210 : decode cL_law 210 = .ok (.iload_n 3, 1) := dL_law_all2.2.2.2.2.2.2.1
theorem dL_law_211 : decode cL_law 211 = .ok (.iconst 1, 1) := dL_law_all2.2.2.2.2.2.2.2.1
theorem dL_law_212 : decode cL_law 212 = .ok (.iadd, 1) := dL_law_all2.2.2.2.2.2.2.2.2.1
theorem dL_law_213 : decode cL_law 213 = .ok (.iaload, 1) := dL_law_all2.2.2.2.2.2.2.2.2.2.1
theorem dL_law_214 : decode cL_law 214 = .ok (.aload_n 0, 1) := dL_law_all2.2.2.2.2.2.2.2.2.2.2.1
theorem dL_law_215 : decode cL_law 215 = .ok (.iload_n 3, 1) := dL_law_all2.2.2.2.2.2.2.2.2.2.2.2
theorem dL_law_all3 : decode cL_law 216 = .ok (.iconst 2, 1) ∧ decode cL_law 217 = .ok (.iadd, 1) ∧ decode cL_law 218 = .ok (.iaload, 1) ∧ decode cL_law 219 = .ok (.aload_n 0, 1) ∧ decode cL_law 220 = .ok (.iload_n 3, 1) ∧ decode cL_law 221 = .ok (.iconst 3, 1) ∧ decode cL_law 222 = .ok (.iadd, 1) ∧ decode cL_law 223 = .ok (.iaload, 1) ∧ decode cL_law 224 = .ok (.invokevirtual 21, 3) ∧ decode cL_law 227 = .ok (.pop, 1) ∧ decode cL_law 228 = .ok (.aload_n 2, 1) ∧ decode cL_law 229 = .ok (.aload_n 0, 1) := ⟨dq_5 sB_9 0 rfl, dq_96 sB_9 1 rfl, dq_46 sB_9 2 rfl, dq_42 sB_9 3 rfl, dq_29 sB_9 4 rfl, dq_6 sB_9 5 rfl, dq_96 sB_9 6 rfl, dq_46 sB_9 7 rfl, dq_182 sB_9 8 rfl 21 (by decide), dq_87 sB_9 11 rfl, dq_44 sB_9 12 rfl, dq_42 sB_9 13 rfl⟩
theorem dL_law_216 : decode cL_law 216 = .ok (.iconst 2, 1) := dL_law_all3.1
theorem dL_law_217 : decode cL_law 217 = .ok (.iadd, 1) := dL_law_all3.2.1
theorem dL_law_218 : decode cL_law 218 = .ok (.iaload, 1) := dL_law_all3.2.2.1
theorem dL_law_219 : decode cL_law 219 = .ok (.aload_n 0, 1) := dL_law_all3.2.2.2.1
theorem dL_law_220 : decode cL_law 220 = .ok (.iload_n 3, 1) := dL_law_all3.2.2.2.2.1
theorem dL_law_221 : decode cL_law 221 = .ok (.iconst 3, 1) := dL_law_all3.2.2.2.2.2.1
theorem dL_law_222 : decode cL_law 222 = .ok (.iadd, 1) := dL_law_all3.2.2.2.2.2.2.1
theorem dL_law_223 : decode cL_law 223 = .ok (.iaload, 1) := dL_law_all3.2.2.2.2.2.2.2.1
theorem dL_law_224 : decode cL_law 224 = .ok (.invokevirtual 21, 3) := dL_law_all3.2.2.2.2.2.2.2.2.1
theorem dL_law_227 : decode cL_law 227 = .ok (.pop, 1) := dL_law_all3.2.2.2.2.2.2.2.2.2.1
theorem dL_law_228 : decode cL_law 228 = .ok (.aload_n 2, 1) := dL_law_all3.2.2.2.2.2.2.2.2.2.2.1
theorem dL_law_229 : decode cL_law 229 = .ok (.aload_n 0, 1) := dL_law_all3.2.2.2.2.2.2.2.2.2.2.2
theorem dL_law_all4 : decode cL_law 230 = .ok (.iload_n 3, 1) ∧ decode cL_law 231 = .ok (.iconst 1, 1) ∧ decode cL_law 232 = .ok (.iadd, 1) ∧ decode cL_law 233 = .ok (.iaload, 1) ∧ decode cL_law 234 = .ok (.aload_n 0, 1) ∧ decode cL_law 235 = .ok (.iload_n 3, 1) ∧ decode cL_law 236 = .ok (.iconst 2, 1) ∧ decode cL_law 237 = .ok (.iadd, 1) ∧ decode cL_law 238 = .ok (.iaload, 1) ∧ decode cL_law 239 = .ok (.aload_n 0, 1) ∧ decode cL_law 240 = .ok (.iload_n 3, 1) ∧ decode cL_law 241 = .ok (.iconst 3, 1) := ⟨dq_29 sB_9 14 rfl, dq_4 sB_9 15 rfl, dq_96 sB_9 16 rfl, dq_46 sB_9 17 rfl, dq_42 sB_9 18 rfl, dq_29 sB_9 19 rfl, dq_5 sB_9 20 rfl, dq_96 sB_9 21 rfl, dq_46 sB_9 22 rfl, dq_42 sB_9 23 rfl, dq_29 sB_10 0 rfl, dq_6 sB_10 1 rfl⟩
theorem dL_law_230 : decode cL_law 230 = .ok (.iload_n 3, 1) := dL_law_all4.1
theorem dL_law_231 : decode cL_law 231 = .ok (.iconst 1, 1) := dL_law_all4.2.1
theorem dL_law_232 : decode cL_law 232 = .ok (.iadd, 1) := dL_law_all4.2.2.1
theorem dL_law_233 : decode cL_law 233 = .ok (.iaload, 1) := dL_law_all4.2.2.2.1
theorem dL_law_234 : decode cL_law 234 = .ok (.aload_n 0, 1) := dL_law_all4.2.2.2.2.1
theorem dL_law_235 : decode cL_law 235 = .ok (.iload_n 3, 1) := dL_law_all4.2.2.2.2.2.1
theorem dL_law_236 : decode cL_law 236 = .ok (.iconst 2, 1) := dL_law_all4.2.2.2.2.2.2.1
theorem dL_law_237 : decode cL_law 237 = .ok (.iadd, 1) := dL_law_all4.2.2.2.2.2.2.2.1
theorem dL_law_238 : decode cL_law 238 = .ok (.iaload, 1) := dL_law_all4.2.2.2.2.2.2.2.2.1
theorem dL_law_239 : decode cL_law 239 = .ok (.aload_n 0, 1) := dL_law_all4.2.2.2.2.2.2.2.2.2.1
theorem dL_law_240 : decode cL_law 240 = .ok (.iload_n 3, 1) := dL_law_all4.2.2.2.2.2.2.2.2.2.2.1
theorem dL_law_241 : decode cL_law 241 = .ok (.iconst 3, 1) := dL_law_all4.2.2.2.2.2.2.2.2.2.2.2
theorem dL_law_all5 : decode cL_law 242 = .ok (.iadd, 1) ∧ decode cL_law 243 = .ok (.iaload, 1) ∧ decode cL_law 244 = .ok (.invokevirtual 25, 3) ∧ decode cL_law 247 = .ok (.pop, 1) ∧ decode cL_law 248 = .ok (.goto 1404, 3) ∧ decode cL_law 251 = .ok (.aload_n 1, 1) ∧ decode cL_law 252 = .ok (.aload_n 0, 1) ∧ decode cL_law 253 = .ok (.iload_n 3, 1) ∧ decode cL_law 254 = .ok (.iconst 1, 1) ∧ decode cL_law 255 = .ok (.iadd, 1) ∧ decode cL_law 256 = .ok (.iaload, 1) ∧ decode cL_law 257 = .ok (.aload_n 0, 1) := ⟨dq_96 sB_10 2 rfl, dq_46 sB_10 3 rfl, dq_182 sB_10 4 rfl 25 (by decide), dq_87 sB_10 7 rfl, dq_167 sB_10 8 rfl 1404 (by decide), dq_43 sB_10 11 rfl, dq_42 sB_10 12 rfl, dq_29 sB_10 13 rfl, dq_4 sB_10 14 rfl, dq_96 sB_10 15 rfl, dq_46 sB_10 16 rfl, dq_42 sB_10 17 rfl⟩
theorem dL_law_242 : decode cL_law 242 = .ok (.iadd, 1) := dL_law_all5.1
theorem dL_law_243 : decode cL_law 243 = .ok (.iaload, 1) := dL_law_all5.2.1
theorem dL_law_244 : decode cL_law 244 = .ok (.invokevirtual 25, 3) := dL_law_all5.2.2.1
theorem dL_law_247 : decode cL_law 247 = .ok (.pop, 1) := dL_law_all5.2.2.2.1
theorem dL_law_248 : decode cL_law 248 = .ok (.goto 1404, 3) := dL_law_all5.2.2.2.2.1
theorem dL_law_251 : decode cL_law 251 = .ok (.aload_n 1, 1) := dL_law_all5.2.2.2.2.2.1
theorem dL_law_252 : decode cL_law 252 = .ok (.aload_n 0, 1) := dL_law_all5.2.2.2.2.2.2.1
theorem dL_law_253 : decode cL_law 253 = .ok (.iload_n 3, 1) := dL_law_all5.2.2.2.2.2.2.2.1
theorem dL_law_254 : decode cL_law 254 = .ok (.iconst 1, 1) := dL_law_all5.2.2.2.2.2.2.2.2.1
theorem dL_law_255 : decode cL_law 255 = .ok (.iadd, 1) := dL_law_all5.2.2.2.2.2.2.2.2.2.1
theorem dL_law_256 : decode cL_law 256 = .ok (.iaload, 1) := dL_law_all5.2.2.2.2.2.2.2.2.2.2.1
theorem dL_law_257 : decode cL_law 257 = .ok (.aload_n 0, 1) := dL_law_all5.2.2.2.2.2.2.2.2.2.2.2
theorem dL_law_all6 : decode cL_law 258 = .ok (.iload_n 3, 1) ∧ decode cL_law 259 = .ok (.iconst 2, 1) ∧ decode cL_law 260 = .ok (.iadd, 1) ∧ decode cL_law 261 = .ok (.iaload, 1) ∧ decode cL_law 262 = .ok (.aload_n 0, 1) ∧ decode cL_law 263 = .ok (.iload_n 3, 1) ∧ decode cL_law 264 = .ok (.iconst 3, 1) ∧ decode cL_law 265 = .ok (.iadd, 1) ∧ decode cL_law 266 = .ok (.iaload, 1) ∧ decode cL_law 267 = .ok (.invokevirtual 26, 3) ∧ decode cL_law 270 = .ok (.pop, 1) ∧ decode cL_law 271 = .ok (.aload_n 2, 1) := ⟨dq_29 sB_10 18 rfl, dq_5 sB_10 19 rfl, dq_96 sB_10 20 rfl, dq_46 sB_10 21 rfl, dq_42 sB_10 22 rfl, dq_29 sB_10 23 rfl, dq_6 sB_11 0 rfl, dq_96 sB_11 1 rfl, dq_46 sB_11 2 rfl, dq_182 sB_11 3 rfl 26 (by decide), dq_87 sB_11 6 rfl, dq_44 sB_11 7 rfl⟩
theorem dL_law_258 : decode cL_law 258 = .ok (.iload_n 3, 1) := dL_law_all6.1
theorem dL_law_259 : decode cL_law 259 = .ok (.iconst 2, 1) := dL_law_all6.2.1
theorem dL_law_260 : decode cL_law 260 = .ok (.iadd, 1) := dL_law_all6.2.2.1
theorem dL_law_261 : decode cL_law 261 = .ok (.iaload, 1) := dL_law_all6.2.2.2.1
theorem dL_law_262 : decode cL_law 262 = .ok (.aload_n 0, 1) := dL_law_all6.2.2.2.2.1
theorem dL_law_263 : decode cL_law 263 = .ok (.iload_n 3, 1) := dL_law_all6.2.2.2.2.2.1
theorem dL_law_264 : decode cL_law 264 = .ok (.iconst 3, 1) := dL_law_all6.2.2.2.2.2.2.1
theorem dL_law_265 : decode cL_law 265 = .ok (.iadd, 1) := dL_law_all6.2.2.2.2.2.2.2.1
theorem dL_law_266 : decode cL_law 266 = .ok (.iaload, 1) := dL_law_all6.2.2.2.2.2.2.2.2.1
theorem dL_law_267 : decode cL_law 267 = .ok (.invokevirtual 26, 3) := dL_law_all6.2.2.2.2.2.2.2.2.2.1
theorem dL_law_270 : decode cL_law 270 = .ok (.pop, 1) := dL_law_all6.2.2.2.2.2.2.2.2.2.2.1
theorem dL_law_271 : decode cL_law 271 = .ok (.aload_n 2, 1) := dL_law_all6.2.2.2.2.2.2.2.2.2.2.2
theorem dL_law_all7 : decode cL_law 272 = .ok (.aload_n 0, 1) ∧ decode cL_law 273 = .ok (.iload_n 3, 1) ∧ decode cL_law 274 = .ok (.iconst 1, 1) ∧ decode cL_law 275 = .ok (.iadd, 1) ∧ decode cL_law 276 = .ok (.iaload, 1) ∧ decode cL_law 277 = .ok (.aload_n 0, 1) ∧ decode cL_law 278 = .ok (.iload_n 3, 1) ∧ decode cL_law 279 = .ok (.iconst 2, 1) ∧ decode cL_law 280 = .ok (.iadd, 1) ∧ decode cL_law 281 = .ok (.iaload, 1) ∧ decode cL_law 282 = .ok (.aload_n 0, 1) ∧ decode cL_law 283 = .ok (.iload_n 3, 1) := ⟨dq_42 sB_11 8 rfl, dq_29 sB_11 9 rfl, dq_4 sB_11 10 rfl, dq_96 sB_11 11 rfl, dq_46 sB_11 12 rfl, dq_42 sB_11 13 rfl, dq_29 sB_11 14 rfl, dq_5 sB_11 15 rfl, dq_96 sB_11 16 rfl, dq_46 sB_11 17 rfl, dq_42 sB_11 18 rfl, dq_29 sB_11 19 rfl⟩
theorem dL_law_272 : decode cL_law 272 = .ok (.aload_n 0, 1) := dL_law_all7.1
theorem dL_law_273 : decode cL_law 273 = .ok (.iload_n 3, 1) := dL_law_all7.2.1
theorem dL_law_274 : decode cL_law 274 = .ok (.iconst 1, 1) := dL_law_all7.2.2.1
theorem dL_law_275 : decode cL_law 275 = .ok (.iadd, 1) := dL_law_all7.2.2.2.1
theorem dL_law_276 : decode cL_law 276 = .ok (.iaload, 1) := dL_law_all7.2.2.2.2.1
theorem dL_law_277 : decode cL_law 277 = .ok (.aload_n 0, 1) := dL_law_all7.2.2.2.2.2.1
theorem dL_law_278 : decode cL_law 278 = .ok (.iload_n 3, 1) := dL_law_all7.2.2.2.2.2.2.1
theorem dL_law_279 : decode cL_law 279 = .ok (.iconst 2, 1) := dL_law_all7.2.2.2.2.2.2.2.1
theorem dL_law_280 : decode cL_law 280 = .ok (.iadd, 1) := dL_law_all7.2.2.2.2.2.2.2.2.1
theorem dL_law_281 : decode cL_law 281 = .ok (.iaload, 1) := dL_law_all7.2.2.2.2.2.2.2.2.2.1
theorem dL_law_282 : decode cL_law 282 = .ok (.aload_n 0, 1) := dL_law_all7.2.2.2.2.2.2.2.2.2.2.1
theorem dL_law_283 : decode cL_law 283 = .ok (.iload_n 3, 1) := dL_law_all7.2.2.2.2.2.2.2.2.2.2.2
theorem dL_law_all8 : decode cL_law 284 = .ok (.iconst 3, 1) ∧ decode cL_law 285 = .ok (.iadd, 1) ∧ decode cL_law 286 = .ok (.iaload, 1) ∧ decode cL_law 287 = .ok (.invokevirtual 29, 3) ∧ decode cL_law 290 = .ok (.pop, 1) ∧ decode cL_law 291 = .ok (.goto 1361, 3) ∧ decode cL_law 294 = .ok (.aload_n 1, 1) ∧ decode cL_law 295 = .ok (.aload_n 0, 1) ∧ decode cL_law 296 = .ok (.iload_n 3, 1) ∧ decode cL_law 297 = .ok (.iconst 1, 1) ∧ decode cL_law 298 = .ok (.iadd, 1) ∧ decode cL_law 299 = .ok (.iaload, 1) := ⟨dq_6 sB_11 20 rfl, dq_96 sB_11 21 rfl, dq_46 sB_11 22 rfl, dq_182 sB_11 23 rfl 29 (by decide), dq_87 sB_12 2 rfl, dq_167 sB_12 3 rfl 1361 (by decide), dq_43 sB_12 6 rfl, dq_42 sB_12 7 rfl, dq_29 sB_12 8 rfl, dq_4 sB_12 9 rfl, dq_96 sB_12 10 rfl, dq_46 sB_12 11 rfl⟩
theorem dL_law_284 : decode cL_law 284 = .ok (.iconst 3, 1) := dL_law_all8.1
theorem dL_law_285 : decode cL_law 285 = .ok (.iadd, 1) := dL_law_all8.2.1
theorem dL_law_286 : decode cL_law 286 = .ok (.iaload, 1) := dL_law_all8.2.2.1
theorem dL_law_287 : decode cL_law 287 = .ok (.invokevirtual 29, 3) := dL_law_all8.2.2.2.1
theorem dL_law_290 : decode cL_law 290 = .ok (.pop, 1) := dL_law_all8.2.2.2.2.1
theorem dL_law_291 : decode cL_law 291 = .ok (.goto 1361, 3) := dL_law_all8.2.2.2.2.2.1
theorem dL_law_294 : decode cL_law 294 = .ok (.aload_n 1, 1) := dL_law_all8.2.2.2.2.2.2.1
theorem dL_law_295 : decode cL_law 295 = .ok (.aload_n 0, 1) := dL_law_all8.2.2.2.2.2.2.2.1
theorem dL_law_296 : decode cL_law 296 = .ok (.iload_n 3, 1) := dL_law_all8.2.2.2.2.2.2.2.2.1
theorem dL_law_297 : decode cL_law 297 = .ok (.iconst 1, 1) := dL_law_all8.2.2.2.2.2.2.2.2.2.1
theorem dL_law_298 : decode cL_law 298 = .ok (.iadd, 1) := dL_law_all8.2.2.2.2.2.2.2.2.2.2.1
theorem dL_law_299 : decode cL_law 299 = .ok (.iaload, 1) := dL_law_all8.2.2.2.2.2.2.2.2.2.2.2
theorem dL_law_all9 : decode cL_law 300 = .ok (.aload_n 0, 1) ∧ decode cL_law 301 = .ok (.iload_n 3, 1) ∧ decode cL_law 302 = .ok (.iconst 2, 1) ∧ decode cL_law 303 = .ok (.iadd, 1) ∧ decode cL_law 304 = .ok (.iaload, 1) ∧ decode cL_law 305 = .ok (.aload_n 0, 1) ∧ decode cL_law 306 = .ok (.iload_n 3, 1) ∧ decode cL_law 307 = .ok (.iconst 3, 1) ∧ decode cL_law 308 = .ok (.iadd, 1) ∧ decode cL_law 309 = .ok (.iaload, 1) ∧ decode cL_law 310 = .ok (.aload_n 0, 1) ∧ decode cL_law 311 = .ok (.iload_n 3, 1) := ⟨dq_42 sB_12 12 rfl, dq_29 sB_12 13 rfl, dq_5 sB_12 14 rfl, dq_96 sB_12 15 rfl, dq_46 sB_12 16 rfl, dq_42 sB_12 17 rfl, dq_29 sB_12 18 rfl, dq_6 sB_12 19 rfl, dq_96 sB_12 20 rfl, dq_46 sB_12 21 rfl, dq_42 sB_12 22 rfl, dq_29 sB_12 23 rfl⟩
theorem dL_law_300 : decode cL_law 300 = .ok (.aload_n 0, 1) := dL_law_all9.1
theorem dL_law_301 : decode cL_law 301 = .ok (.iload_n 3, 1) := dL_law_all9.2.1
theorem dL_law_302 : decode cL_law 302 = .ok (.iconst 2, 1) := dL_law_all9.2.2.1
theorem dL_law_303 : decode cL_law 303 = .ok (.iadd, 1) := dL_law_all9.2.2.2.1
theorem dL_law_304 : decode cL_law 304 = .ok (.iaload, 1) := dL_law_all9.2.2.2.2.1
theorem dL_law_305 : decode cL_law 305 = .ok (.aload_n 0, 1) := dL_law_all9.2.2.2.2.2.1
theorem dL_law_306 : decode cL_law 306 = .ok (.iload_n 3, 1) := dL_law_all9.2.2.2.2.2.2.1
theorem dL_law_307 : decode cL_law 307 = .ok (.iconst 3, 1) := dL_law_all9.2.2.2.2.2.2.2.1
theorem dL_law_308 : decode cL_law 308 = .ok (.iadd, 1) := dL_law_all9.2.2.2.2.2.2.2.2.1
theorem dL_law_309 : decode cL_law 309 = .ok (.iaload, 1) := dL_law_all9.2.2.2.2.2.2.2.2.2.1
theorem dL_law_310 : decode cL_law 310 = .ok (.aload_n 0, 1) := dL_law_all9.2.2.2.2.2.2.2.2.2.2.1
theorem dL_law_311 : decode cL_law 311 = .ok (.iload_n 3, 1) := dL_law_all9.2.2.2.2.2.2.2.2.2.2.2
theorem dL_law_all10 : decode cL_law 312 = .ok (.iconst 4, 1) ∧ decode cL_law 313 = .ok (.iadd, 1) ∧ decode cL_law 314 = .ok (.iaload, 1) ∧ decode cL_law 315 = .ok (.aload_n 0, 1) ∧ decode cL_law 316 = .ok (.iload_n 3, 1) ∧ decode cL_law 317 = .ok (.iconst 5, 1) ∧ decode cL_law 318 = .ok (.iadd, 1) ∧ decode cL_law 319 = .ok (.iaload, 1) ∧ decode cL_law 320 = .ok (.invokevirtual 30, 3) ∧ decode cL_law 323 = .ok (.pop, 1) ∧ decode cL_law 324 = .ok (.aload_n 2, 1) ∧ decode cL_law 325 = .ok (.aload_n 0, 1) := ⟨dq_7 sB_13 0 rfl, dq_96 sB_13 1 rfl, dq_46 sB_13 2 rfl, dq_42 sB_13 3 rfl, dq_29 sB_13 4 rfl, dq_8 sB_13 5 rfl, dq_96 sB_13 6 rfl, dq_46 sB_13 7 rfl, dq_182 sB_13 8 rfl 30 (by decide), dq_87 sB_13 11 rfl, dq_44 sB_13 12 rfl, dq_42 sB_13 13 rfl⟩
theorem dL_law_312 : decode cL_law 312 = .ok (.iconst 4, 1) := dL_law_all10.1
theorem dL_law_313 : decode cL_law 313 = .ok (.iadd, 1) := dL_law_all10.2.1
theorem dL_law_314 : decode cL_law 314 = .ok (.iaload, 1) := dL_law_all10.2.2.1
theorem dL_law_315 : decode cL_law 315 = .ok (.aload_n 0, 1) := dL_law_all10.2.2.2.1
theorem dL_law_316 : decode cL_law 316 = .ok (.iload_n 3, 1) := dL_law_all10.2.2.2.2.1
theorem dL_law_317 : decode cL_law 317 = .ok (.iconst 5, 1) := dL_law_all10.2.2.2.2.2.1
theorem dL_law_318 : decode cL_law 318 = .ok (.iadd, 1) := dL_law_all10.2.2.2.2.2.2.1
theorem dL_law_319 : decode cL_law 319 = .ok (.iaload, 1) := dL_law_all10.2.2.2.2.2.2.2.1
theorem dL_law_320 : decode cL_law 320 = .ok (.invokevirtual 30, 3) := dL_law_all10.2.2.2.2.2.2.2.2.1
theorem dL_law_323 : decode cL_law 323 = .ok (.pop, 1) := dL_law_all10.2.2.2.2.2.2.2.2.2.1
theorem dL_law_324 : decode cL_law 324 = .ok (.aload_n 2, 1) := dL_law_all10.2.2.2.2.2.2.2.2.2.2.1
theorem dL_law_325 : decode cL_law 325 = .ok (.aload_n 0, 1) := dL_law_all10.2.2.2.2.2.2.2.2.2.2.2
theorem dL_law_all11 : decode cL_law 326 = .ok (.iload_n 3, 1) ∧ decode cL_law 327 = .ok (.iconst 1, 1) ∧ decode cL_law 328 = .ok (.iadd, 1) ∧ decode cL_law 329 = .ok (.iaload, 1) ∧ decode cL_law 330 = .ok (.aload_n 0, 1) ∧ decode cL_law 331 = .ok (.iload_n 3, 1) ∧ decode cL_law 332 = .ok (.iconst 2, 1) ∧ decode cL_law 333 = .ok (.iadd, 1) ∧ decode cL_law 334 = .ok (.iaload, 1) ∧ decode cL_law 335 = .ok (.aload_n 0, 1) ∧ decode cL_law 336 = .ok (.iload_n 3, 1) ∧ decode cL_law 337 = .ok (.iconst 3, 1) := ⟨dq_29 sB_13 14 rfl, dq_4 sB_13 15 rfl, dq_96 sB_13 16 rfl, dq_46 sB_13 17 rfl, dq_42 sB_13 18 rfl, dq_29 sB_13 19 rfl, dq_5 sB_13 20 rfl, dq_96 sB_13 21 rfl, dq_46 sB_13 22 rfl, dq_42 sB_13 23 rfl, dq_29 sB_14 0 rfl, dq_6 sB_14 1 rfl⟩
theorem dL_law_326 : decode cL_law 326 = .ok (.iload_n 3, 1) := dL_law_all11.1
theorem dL_law_327 : decode cL_law 327 = .ok (.iconst 1, 1) := dL_law_all11.2.1
theorem dL_law_328 : decode cL_law 328 = .ok (.iadd, 1) := dL_law_all11.2.2.1
theorem dL_law_329 : decode cL_law 329 = .ok (.iaload, 1) := dL_law_all11.2.2.2.1
theorem dL_law_330 : decode cL_law 330 = .ok (.aload_n 0, 1) := dL_law_all11.2.2.2.2.1
theorem dL_law_331 : decode cL_law 331 = .ok (.iload_n 3, 1) := dL_law_all11.2.2.2.2.2.1
theorem dL_law_332 : decode cL_law 332 = .ok (.iconst 2, 1) := dL_law_all11.2.2.2.2.2.2.1
theorem dL_law_333 : decode cL_law 333 = .ok (.iadd, 1) := dL_law_all11.2.2.2.2.2.2.2.1
theorem dL_law_334 : decode cL_law 334 = .ok (.iaload, 1) := dL_law_all11.2.2.2.2.2.2.2.2.1
theorem dL_law_335 : decode cL_law 335 = .ok (.aload_n 0, 1) := dL_law_all11.2.2.2.2.2.2.2.2.2.1
theorem dL_law_336 : decode cL_law 336 = .ok (.iload_n 3, 1) := dL_law_all11.2.2.2.2.2.2.2.2.2.2.1
theorem dL_law_337 : decode cL_law 337 = .ok (.iconst 3, 1) := dL_law_all11.2.2.2.2.2.2.2.2.2.2.2
theorem dL_law_all12 : decode cL_law 338 = .ok (.iadd, 1) ∧ decode cL_law 339 = .ok (.iaload, 1) ∧ decode cL_law 340 = .ok (.aload_n 0, 1) ∧ decode cL_law 341 = .ok (.iload_n 3, 1) ∧ decode cL_law 342 = .ok (.iconst 4, 1) ∧ decode cL_law 343 = .ok (.iadd, 1) ∧ decode cL_law 344 = .ok (.iaload, 1) ∧ decode cL_law 345 = .ok (.aload_n 0, 1) ∧ decode cL_law 346 = .ok (.iload_n 3, 1) ∧ decode cL_law 347 = .ok (.iconst 5, 1) ∧ decode cL_law 348 = .ok (.iadd, 1) ∧ decode cL_law 349 = .ok (.iaload, 1) := ⟨dq_96 sB_14 2 rfl, dq_46 sB_14 3 rfl, dq_42 sB_14 4 rfl, dq_29 sB_14 5 rfl, dq_7 sB_14 6 rfl, dq_96 sB_14 7 rfl, dq_46 sB_14 8 rfl, dq_42 sB_14 9 rfl, dq_29 sB_14 10 rfl, dq_8 sB_14 11 rfl, dq_96 sB_14 12 rfl, dq_46 sB_14 13 rfl⟩
theorem dL_law_338 : decode cL_law 338 = .ok (.iadd, 1) := dL_law_all12.1
theorem dL_law_339 : decode cL_law 339 = .ok (.iaload, 1) := dL_law_all12.2.1
theorem dL_law_340 : decode cL_law 340 = .ok (.aload_n 0, 1) := dL_law_all12.2.2.1
theorem dL_law_341 : decode cL_law 341 = .ok (.iload_n 3, 1) := dL_law_all12.2.2.2.1
theorem dL_law_342 : decode cL_law 342 = .ok (.iconst 4, 1) := dL_law_all12.2.2.2.2.1
theorem dL_law_343 : decode cL_law 343 = .ok (.iadd, 1) := dL_law_all12.2.2.2.2.2.1
theorem dL_law_344 : decode cL_law 344 = .ok (.iaload, 1) := dL_law_all12.2.2.2.2.2.2.1
theorem dL_law_345 : decode cL_law 345 = .ok (.aload_n 0, 1) := dL_law_all12.2.2.2.2.2.2.2.1
theorem dL_law_346 : decode cL_law 346 = .ok (.iload_n 3, 1) := dL_law_all12.2.2.2.2.2.2.2.2.1
theorem dL_law_347 : decode cL_law 347 = .ok (.iconst 5, 1) := dL_law_all12.2.2.2.2.2.2.2.2.2.1
theorem dL_law_348 : decode cL_law 348 = .ok (.iadd, 1) := dL_law_all12.2.2.2.2.2.2.2.2.2.2.1
theorem dL_law_349 : decode cL_law 349 = .ok (.iaload, 1) := dL_law_all12.2.2.2.2.2.2.2.2.2.2.2
theorem dL_law_all13 : decode cL_law 350 = .ok (.invokevirtual 34, 3) ∧ decode cL_law 353 = .ok (.pop, 1) ∧ decode cL_law 354 = .ok (.goto 1298, 3) ∧ decode cL_law 357 = .ok (.aload_n 1, 1) ∧ decode cL_law 358 = .ok (.aload_n 0, 1) ∧ decode cL_law 359 = .ok (.iload_n 3, 1) ∧ decode cL_law 360 = .ok (.iconst 1, 1) ∧ decode cL_law 361 = .ok (.iadd, 1) ∧ decode cL_law 362 = .ok (.iaload, 1) ∧ decode cL_law 363 = .ok (.invokevirtual 35, 3) ∧ decode cL_law 366 = .ok (.pop, 1) ∧ decode cL_law 367 = .ok (.aload_n 2, 1) := ⟨dq_182 sB_14 14 rfl 34 (by decide), dq_87 sB_14 17 rfl, dq_167 sB_14 18 rfl 1298 (by decide), dq_43 sB_14 21 rfl, dq_42 sB_14 22 rfl, dq_29 sB_14 23 rfl, dq_4 sB_15 0 rfl, dq_96 sB_15 1 rfl, dq_46 sB_15 2 rfl, dq_182 sB_15 3 rfl 35 (by decide), dq_87 sB_15 6 rfl, dq_44 sB_15 7 rfl⟩
theorem dL_law_350 : decode cL_law 350 = .ok (.invokevirtual 34, 3) := dL_law_all13.1
theorem dL_law_353 : decode cL_law 353 = .ok (.pop, 1) := dL_law_all13.2.1
theorem dL_law_354 : decode cL_law 354 = .ok (.goto 1298, 3) := dL_law_all13.2.2.1
theorem dL_law_357 : decode cL_law 357 = .ok (.aload_n 1, 1) := dL_law_all13.2.2.2.1
theorem dL_law_358 : decode cL_law 358 = .ok (.aload_n 0, 1) := dL_law_all13.2.2.2.2.1
theorem dL_law_359 : decode cL_law 359 = .ok (.iload_n 3, 1) := dL_law_all13.2.2.2.2.2.1
theorem dL_law_360 : decode cL_law 360 = .ok (.iconst 1, 1) := dL_law_all13.2.2.2.2.2.2.1
theorem dL_law_361 : decode cL_law 361 = .ok (.iadd, 1) := dL_law_all13.2.2.2.2.2.2.2.1
theorem dL_law_362 : decode cL_law 362 = .ok (.iaload, 1) := dL_law_all13.2.2.2.2.2.2.2.2.1
theorem dL_law_363 : decode cL_law 363 = .ok (.invokevirtual 35, 3) := dL_law_all13.2.2.2.2.2.2.2.2.2.1
theorem dL_law_366 : decode cL_law 366 = .ok (.pop, 1) := dL_law_all13.2.2.2.2.2.2.2.2.2.2.1
theorem dL_law_367 : decode cL_law 367 = .ok (.aload_n 2, 1) := dL_law_all13.2.2.2.2.2.2.2.2.2.2.2
theorem dL_law_all14 : decode cL_law 368 = .ok (.aload_n 0, 1) ∧ decode cL_law 369 = .ok (.iload_n 3, 1) ∧ decode cL_law 370 = .ok (.iconst 1, 1) ∧ decode cL_law 371 = .ok (.iadd, 1) ∧ decode cL_law 372 = .ok (.iaload, 1) ∧ decode cL_law 373 = .ok (.invokevirtual 39, 3) ∧ decode cL_law 376 = .ok (.pop, 1) ∧ decode cL_law 377 = .ok (.goto 1275, 3) ∧ decode cL_law 380 = .ok (.aload_n 1, 1) ∧ decode cL_law 381 = .ok (.aload_n 0, 1) ∧ decode cL_law 382 = .ok (.iload_n 3, 1) ∧ decode cL_law 383 = .ok (.iconst 1, 1) := ⟨dq_42 sB_15 8 rfl, dq_29 sB_15 9 rfl, dq_4 sB_15 10 rfl, dq_96 sB_15 11 rfl, dq_46 sB_15 12 rfl, dq_182 sB_15 13 rfl 39 (by decide), dq_87 sB_15 16 rfl, dq_167 sB_15 17 rfl 1275 (by decide), dq_43 sB_15 20 rfl, dq_42 sB_15 21 rfl, dq_29 sB_15 22 rfl, dq_4 sB_15 23 rfl⟩
theorem dL_law_368 : decode cL_law 368 = .ok (.aload_n 0, 1) := dL_law_all14.1
theorem dL_law_369 : decode cL_law 369 = .ok (.iload_n 3, 1) := dL_law_all14.2.1
theorem dL_law_370 : decode cL_law 370 = .ok (.iconst 1, 1) := dL_law_all14.2.2.1
theorem dL_law_371 : decode cL_law 371 = .ok (.iadd, 1) := dL_law_all14.2.2.2.1
theorem dL_law_372 : decode cL_law 372 = .ok (.iaload, 1) := dL_law_all14.2.2.2.2.1
theorem dL_law_373 : decode cL_law 373 = .ok (.invokevirtual 39, 3) := dL_law_all14.2.2.2.2.2.1
theorem dL_law_376 : decode cL_law 376 = .ok (.pop, 1) := dL_law_all14.2.2.2.2.2.2.1
theorem dL_law_377 : decode cL_law 377 = .ok (.goto 1275, 3) := dL_law_all14.2.2.2.2.2.2.2.1
set_option maxHeartbeats 4000000 in
set_option maxRecDepth 100000 in
theorem law_case_0 {p : Program} {l : Launch} {e : Env} {s : State} {m : MethodId} {below : List Frame} {meth : Method} {c : Code} {D : va_G} {cI cY cJ cQ : ClassId} {b L aK aV : Nat} {xs : Nat → Int32} {ad rw md : Nat → Nat} {sd i : Int32} {nx : Nat → Int32} {fx rs : Nat → Nat → Int32} {lo : Nat → Int64} {ny : Nat → Int32} {fy : Nat → Nat → Int32} {fl : Nat → Int64} {H : Heap} {locs : List Loc} {ls : Array Slot} (C0 : lawC p s m meth c b L xs D cI cY cJ cQ aK aV) (I : inv nx fx rs ny fy) (hP : va_P D vwCl (wX ad rw sd cI cY cJ cQ nx fx rs lo ++ wM md sd cI cY cJ cQ ny fy fl) H) (hD : va_D (fun q : Nat => s.heap.size ≤ q) (wX ad rw sd cI cY cJ cQ nx fx rs lo ++ wM md sd cI cY cJ cQ ny fy fl)) (hS : va_S (fun q : Nat => s.heap.size ≤ q) s.heap H locs) (hl : lv_has ls 4 [(0, .ref b), (1, .ref (ad 0)), (2, .ref (md 64)), (3, .int i)]) (hi1 : 1 ≤ i.toInt) (hi2 : i.toInt + 5 < L) (kk : ∀ (nx : Nat → Int32) (fx rs : Nat → Nat → Int32) (lo : Nat → Int64) (ny : Nat → Int32) (fy : Nat → Nat → Int32) (fl : Nat → Int64) (H : Heap) (locs : List Loc) (ls : Array Slot), inv nx fx rs ny fy → va_P D vwCl (wX ad rw sd cI cY cJ cQ nx fx rs lo ++ wM md sd cI cY cJ cQ ny fy fl) H → va_D (fun q : Nat => s.heap.size ≤ q) (wX ad rw sd cI cY cJ cQ nx fx rs lo ++ wM md sd cI cY cJ cQ ny fy fl) → va_S (fun q : Nat => s.heap.size ≤ q) s.heap H locs → lv_has ls 4 [(0, .ref b), (1, .ref (ad 0)), (2, .ref (md 64)), (3, .int i)] → W p l e room_1 s m #[Value.ref b] below meth c H locs 107 4890 (lw_Z below #[Value.ref b] s) (F0 m 1652 ls [])) : W p l e room_1 s m #[Value.ref b] below meth c H locs 107 4890 (lw_Z below #[Value.ref b] s) (F0 m 208 ls []) := by
  obtain ⟨C1, hK, hN, hT, hL⟩ := C0
  obtain ⟨hx, hb, hr, hml, hown, hts0, hX, hbl, hlocks, hgv⟩ := C1
  have hA : ∀ q : Nat, s.heap.size ≤ q → (fun q : Nat => s.heap.size ≤ q) q := fun _ h => h
  have hbA : ¬ (fun q : Nat => s.heap.size ≤ q) b := Nat.not_le.mpr hbl
  have hts : ∀ w ∈ wsL_law, w.before #[Value.ref b] s = true := fun w h => hts0 w (wsL_law_in w h)
  replace hown : s.vm.findClass RL = some m.cls := hown
  replace hb : c.code = cL_law := hb
  have hak1 : vp_in (i + 1) L := law_in hi1 hi2 hL (by decide)
  obtain ⟨xk1, exk1⟩ : ∃ y : Int32, y = xs (i + 1).toNatClampNeg := ⟨_, rfl⟩
  have hak2 : vp_in (i + 2) L := law_in hi1 hi2 hL (by decide)
  obtain ⟨xk2, exk2⟩ : ∃ y : Int32, y = xs (i + 2).toNatClampNeg := ⟨_, rfl⟩
  have hak3 : vp_in (i + 3) L := law_in hi1 hi2 hL (by decide)
  obtain ⟨xk3, exk3⟩ : ∃ y : Int32, y = xs (i + 3).toNatClampNeg := ⟨_, rfl⟩
  refine inv_el I ?_
  intro Xhna Xhnb XH XD XV XN Xcna Xcnb XF Xpna Xpnb XG XO XW Xgna Xgnb XJ Xlna Xlnb Xdla Xdlb Xana Xanb Xuna Xunb XU Xlca Xlcb Xtna Xtnb XS Mhna Mhnb MH MS Mmlna Mmlnb Mmtna Mmtnb Chn Cho Chc Chp Chs Ccn Cfo Cwo Cpn Cpk Cpf Cpo Cpd Cpe Cgn Cgk Cgs Cgd Cge Can Cak Cah Cay Caz Cun Cuk Cuy Cuw Cum Clc Clp Cla Clb Caw Ciw Cln Ctd Cro Cmtn Cmtr Cmst Csh
  have Tcn := i_eq Ccn
  have Tpn := i_eq Cpn
  have Tgn := i_eq Cgn
  have Tan := i_eq Can
  have Tun := i_eq Cun
  have Tlc := i_eq Clc
  have Tln := i_eq Cln
  refine lv_aload_n hx hb dL_law_208 rfl (lv_at hl 1 rfl) ?_
  refine law_arg (v := 1) hx hb hX hbl hbA hS (lv_at hl 0 rfl) (lv_at hl 3 rfl) (by decide) hak1 exk1 dL_law_209 dL_law_210 dL_law_211 dL_law_212 dL_law_213 ?_
  refine law_arg (v := 2) hx hb hX hbl hbA hS (lv_at hl 0 rfl) (lv_at hl 3 rfl) (by decide) hak2 exk2 dL_law_214 dL_law_215 dL_law_216 dL_law_217 dL_law_218 ?_
  refine law_arg (v := 3) hx hb hX hbl hbA hS (lv_at hl 0 rfl) (lv_at hl 3 rfl) (by decide) hak3 exk3 dL_law_219 dL_law_220 dL_law_221 dL_law_222 dL_law_223 ?_
  refine st_iU (va_runV (C := RX10) (As := [.int xk1, .int xk2, .int xk3]) (rest := []) ⟨hx, hb, hml, hown, hts⟩ (ct_X10_sheet l D cI cY cJ cQ _ ad rw rs (nx 0) (nx 1) (nx 2) (fx 1) (fx 2) xk1 xk2 xk3) (cwV 3 hts gL_law_X10_sheet rfl rfl rfl ⟨rfl, cdX10_sheet⟩ ⟨Nat.le_of_ble_eq_true rfl, Nat.le_of_ble_eq_true rfl⟩) (cPreV (hP.sub [2, 3, 4, 5, 6, 7, 8, 9, 0, 10, 11, 12, 13] rfl) hK (hD.sub [2, 3, 4, 5, 6, 7, 8, 9, 0, 10, 11, 12, 13] (by decide +kernel) rfl) hN (ci := 10) (q0 := 8) rfl rfl) rfl rfl hl.1 rfl (lv_room (Nat.le_of_ble_eq_true rfl)) dL_law_224 ⟨Nat.le_of_ble_eq_true rfl, Nat.le_of_ble_eq_true rfl⟩) hP hD hS hA [2, 3, 4, 5, 6, 7, 8, 9, 0, 10, 11, 12, 13] rfl (fun _ => rfl) (fun r3 u1 H locs hw2 => ?_)
  clear hP hS
  intro hP hS
  obtain ⟨lf_4, rs_5, sl_6, ss_7⟩ := u1
  replace hw2 : (r3, (lf_4, rs_5, sl_6, ss_7)) = sp_sheet (nx 2) rs (fx 1) (fx 2) xk1 xk2 xk3 := hw2
  have hw2s := sp_sheet_ok hw2 XS
  have hw2r := sp_sheet_an hw2
  refine lv_pop hx hb dL_law_227 rfl ?_
  have hPx : va_P D vwCl (wX ad rw sd cI cY cJ cQ (upd nx 2 lf_4) (upR (upR fx 1 sl_6) 2 ss_7) rs_5 lo ++ wM md sd cI cY cJ cQ ny fy fl) H := hP
  have hDx : va_D (fun q : Nat => s.heap.size ≤ q) (wX ad rw sd cI cY cJ cQ (upd nx 2 lf_4) (upR (upR fx 1 sl_6) 2 ss_7) rs_5 lo ++ wM md sd cI cY cJ cQ ny fy fl) := wXM_D hD
  have hP := hPx.comm
  have hD := hDx.comm
  refine lv_aload_n hx hb dL_law_228 rfl (lv_at hl 2 rfl) ?_
  refine law_arg (v := 1) hx hb hX hbl hbA hS (lv_at hl 0 rfl) (lv_at hl 3 rfl) (by decide) hak1 exk1 dL_law_229 dL_law_230 dL_law_231 dL_law_232 dL_law_233 ?_
  refine law_arg (v := 2) hx hb hX hbl hbA hS (lv_at hl 0 rfl) (lv_at hl 3 rfl) (by decide) hak2 exk2 dL_law_234 dL_law_235 dL_law_236 dL_law_237 dL_law_238 ?_
  refine law_arg (v := 3) hx hb hX hbl hbA hS (lv_at hl 0 rfl) (lv_at hl 3 rfl) (by decide) hak3 exk3 dL_law_239 dL_law_240 dL_law_241 dL_law_242 dL_law_243 ?_
  refine st_iU (va_runV (C := RX11) (As := [.int xk1, .int xk2, .int xk3]) (rest := []) ⟨hx, hb, hml, hown, hts⟩ (ct_X11_sheet l D cI cY cJ cQ _ md sd (ny 0) (ny 1) (ny 2) (ny 3) (ny 4) (ny 5) (ny 6) (ny 7) (ny 8) (ny 9) (ny 10) (ny 11) (ny 12) (ny 13) (ny 14) (ny 15) (ny 16) (ny 17) (ny 18) (ny 19) (ny 20) (ny 21) (ny 22) (fy 0) (fy 1) (fy 2) xk1 xk2 xk3 MS) (cwV 3 hts gL_law_X11_sheet rfl rfl rfl ⟨rfl, cdX11_sheet⟩ ⟨Nat.le_of_ble_eq_true rfl, Nat.le_of_ble_eq_true rfl⟩) (cPreV (hP.sub [0, 1, 2, 3] rfl) hK (hD.sub [0, 1, 2, 3] (by decide +kernel) rfl) hN (ci := 11) (q0 := 0) rfl rfl) rfl rfl hl.1 rfl (lv_room (Nat.le_of_ble_eq_true rfl)) dL_law_244 ⟨Nat.le_of_ble_eq_true rfl, Nat.le_of_ble_eq_true rfl⟩) hP hD hS hA [0, 1, 2, 3] rfl (fun _ => rfl) (fun r10 u8 H locs hw9 => ?_)
  clear hP hS
  intro hP hS
  obtain ⟨mst_11, ml_12, mm_13, mi_14⟩ := u8
  replace hw9 : r10 = an_sheet xk1 xk2 xk3 ∧ okM mm_13 ∧ ps_sheet (ny 1) (fy 0) (fy 1) (fy 2) xk1 xk2 xk3 mst_11 ml_12 mm_13 mi_14 := hw9
  obtain ⟨hw9r, hw9s, hw9p⟩ := hw9
  have e90 := hw2r.trans hw9r.symm
  obtain ⟨e9sh, e9st⟩ := shR_sheet Csh hw2 hw9p
  refine lv_pop hx hb dL_law_247 rfl ?_
  refine lv_goto (tgt := 1652) hx hb dL_law_248 (by decide) ?_
  have hPm : va_P D vwCl (wM md sd cI cY cJ cQ (upd (upd ny 0 0) 1 mst_11) (upR (upR (upR fy 0 ml_12) 1 mm_13) 2 mi_14) fl ++ wX ad rw sd cI cY cJ cQ (upd nx 2 lf_4) (upR (upR fx 1 sl_6) 2 ss_7) rs_5 lo) H := hP
  have hDm : va_D (fun q : Nat => s.heap.size ≤ q) (wM md sd cI cY cJ cQ (upd (upd ny 0 0) 1 mst_11) (upR (upR (upR fy 0 ml_12) 1 mm_13) 2 mi_14) fl ++ wX ad rw sd cI cY cJ cQ (upd nx 2 lf_4) (upR (upR fx 1 sl_6) 2 ss_7) rs_5 lo) := wMX_D hD
  exact kk (upd nx 2 lf_4) (upR (upR fx 1 sl_6) 2 ss_7) rs_5 lo (upd (upd ny 0 0) 1 mst_11) (upR (upR (upR fy 0 ml_12) 1 mm_13) 2 mi_14) fl H locs ls ⟨Xhna, Xhnb, XH, XD, XV, XN, Xcna, Xcnb, XF, Xpna, Xpnb, XG, XO, XW, Xgna, Xgnb, XJ, Xlna, Xlnb, Xdla, Xdlb, Xana, Xanb, Xuna, Xunb, XU, Xlca, Xlcb, Xtna, Xtnb, (show okS (ss_7) by assumption), Mhna, Mhnb, MH, (show okM (mm_13) by assumption), Mmlna, Mmlnb, Mmtna, Mmtnb, Chn, Cho, Chc, Chp, Chs, Ccn, Cfo, Cwo, Cpn, Cpk, Cpf, Cpo, Cpd, Cpe, Cgn, Cgk, Cgs, Cgd, Cge, Can, Cak, Cah, Cay, Caz, Cun, Cuk, Cuy, Cuw, Cum, Clc, Clp, Cla, Clb, Caw, Ciw, Cln, Ctd, Cro, Cmtn, Cmtr, (show (mst_11) = (lf_4) from e9st Cmst), (show shR (ml_12) (mm_13) (mi_14) (sl_6) (ss_7) rs_5 from e9sh)⟩ hPm.comm hDm.comm hS hl

set_option maxHeartbeats 4000000 in
set_option maxRecDepth 100000 in
theorem law_case_1 {p : Program} {l : Launch} {e : Env} {s : State} {m : MethodId} {below : List Frame} {meth : Method} {c : Code} {D : va_G} {cI cY cJ cQ : ClassId} {b L aK aV : Nat} {xs : Nat → Int32} {ad rw md : Nat → Nat} {sd i : Int32} {nx : Nat → Int32} {fx rs : Nat → Nat → Int32} {lo : Nat → Int64} {ny : Nat → Int32} {fy : Nat → Nat → Int32} {fl : Nat → Int64} {H : Heap} {locs : List Loc} {ls : Array Slot} (C0 : lawC p s m meth c b L xs D cI cY cJ cQ aK aV) (I : inv nx fx rs ny fy) (hP : va_P D vwCl (wX ad rw sd cI cY cJ cQ nx fx rs lo ++ wM md sd cI cY cJ cQ ny fy fl) H) (hD : va_D (fun q : Nat => s.heap.size ≤ q) (wX ad rw sd cI cY cJ cQ nx fx rs lo ++ wM md sd cI cY cJ cQ ny fy fl)) (hS : va_S (fun q : Nat => s.heap.size ≤ q) s.heap H locs) (hl : lv_has ls 4 [(0, .ref b), (1, .ref (ad 0)), (2, .ref (md 64)), (3, .int i)]) (hi1 : 1 ≤ i.toInt) (hi2 : i.toInt + 5 < L) (kk : ∀ (nx : Nat → Int32) (fx rs : Nat → Nat → Int32) (lo : Nat → Int64) (ny : Nat → Int32) (fy : Nat → Nat → Int32) (fl : Nat → Int64) (H : Heap) (locs : List Loc) (ls : Array Slot), inv nx fx rs ny fy → va_P D vwCl (wX ad rw sd cI cY cJ cQ nx fx rs lo ++ wM md sd cI cY cJ cQ ny fy fl) H → va_D (fun q : Nat => s.heap.size ≤ q) (wX ad rw sd cI cY cJ cQ nx fx rs lo ++ wM md sd cI cY cJ cQ ny fy fl) → va_S (fun q : Nat => s.heap.size ≤ q) s.heap H locs → lv_has ls 4 [(0, .ref b), (1, .ref (ad 0)), (2, .ref (md 64)), (3, .int i)] → W p l e room_1 s m #[Value.ref b] below meth c H locs 107 4890 (lw_Z below #[Value.ref b] s) (F0 m 1652 ls [])) : W p l e room_1 s m #[Value.ref b] below meth c H locs 107 4890 (lw_Z below #[Value.ref b] s) (F0 m 251 ls []) := by
  obtain ⟨C1, hK, hN, hT, hL⟩ := C0
  obtain ⟨hx, hb, hr, hml, hown, hts0, hX, hbl, hlocks, hgv⟩ := C1
  have hA : ∀ q : Nat, s.heap.size ≤ q → (fun q : Nat => s.heap.size ≤ q) q := fun _ h => h
  have hbA : ¬ (fun q : Nat => s.heap.size ≤ q) b := Nat.not_le.mpr hbl
  have hts : ∀ w ∈ wsL_law, w.before #[Value.ref b] s = true := fun w h => hts0 w (wsL_law_in w h)
  replace hown : s.vm.findClass RL = some m.cls := hown
  replace hb : c.code = cL_law := hb
  have hak1 : vp_in (i + 1) L := law_in hi1 hi2 hL (by decide)
  obtain ⟨xk1, exk1⟩ : ∃ y : Int32, y = xs (i + 1).toNatClampNeg := ⟨_, rfl⟩
  have hak2 : vp_in (i + 2) L := law_in hi1 hi2 hL (by decide)
  obtain ⟨xk2, exk2⟩ : ∃ y : Int32, y = xs (i + 2).toNatClampNeg := ⟨_, rfl⟩
  have hak3 : vp_in (i + 3) L := law_in hi1 hi2 hL (by decide)
  obtain ⟨xk3, exk3⟩ : ∃ y : Int32, y = xs (i + 3).toNatClampNeg := ⟨_, rfl⟩
  refine inv_el I ?_
  intro Xhna Xhnb XH XD XV XN Xcna Xcnb XF Xpna Xpnb XG XO XW Xgna Xgnb XJ Xlna Xlnb Xdla Xdlb Xana Xanb Xuna Xunb XU Xlca Xlcb Xtna Xtnb XS Mhna Mhnb MH MS Mmlna Mmlnb Mmtna Mmtnb Chn Cho Chc Chp Chs Ccn Cfo Cwo Cpn Cpk Cpf Cpo Cpd Cpe Cgn Cgk Cgs Cgd Cge Can Cak Cah Cay Caz Cun Cuk Cuy Cuw Cum Clc Clp Cla Clb Caw Ciw Cln Ctd Cro Cmtn Cmtr Cmst Csh
  have Tcn := i_eq Ccn
  have Tpn := i_eq Cpn
  have Tgn := i_eq Cgn
  have Tan := i_eq Can
  have Tun := i_eq Cun
  have Tlc := i_eq Clc
  have Tln := i_eq Cln
  refine lv_aload_n hx hb dL_law_251 rfl (lv_at hl 1 rfl) ?_
  refine law_arg (v := 1) hx hb hX hbl hbA hS (lv_at hl 0 rfl) (lv_at hl 3 rfl) (by decide) hak1 exk1 dL_law_252 dL_law_253 dL_law_254 dL_law_255 dL_law_256 ?_
  refine law_arg (v := 2) hx hb hX hbl hbA hS (lv_at hl 0 rfl) (lv_at hl 3 rfl) (by decide) hak2 exk2 dL_law_257 dL_law_258 dL_law_259 dL_law_260 dL_law_261 ?_
  refine law_arg (v := 3) hx hb hX hbl hbA hS (lv_at hl 0 rfl) (lv_at hl 3 rfl) (by decide) hak3 exk3 dL_law_262 dL_law_263 dL_law_264 dL_law_265 dL_law_266 ?_
  refine st_iU (va_runV (C := RX10) (As := [.int xk1, .int xk2, .int xk3]) (rest := []) ⟨hx, hb, hml, hown, hts⟩ (ct_X10_set l D cI cY cJ cQ _ ad rw rs (nx 0) (nx 1) (nx 2) (fx 1) (fx 2) xk1 xk2 xk3 XS) (cwV 3 hts gL_law_X10_set rfl rfl rfl ⟨rfl, cdX10_set⟩ ⟨Nat.le_of_ble_eq_true rfl, Nat.le_of_ble_eq_true rfl⟩) (cPreV (hP.sub [2, 3, 4, 5, 6, 7, 8, 9, 0, 10, 11, 12, 13] rfl) hK (hD.sub [2, 3, 4, 5, 6, 7, 8, 9, 0, 10, 11, 12, 13] (by decide +kernel) rfl) hN (ci := 10) (q0 := 8) rfl rfl) rfl rfl hl.1 rfl (lv_room (Nat.le_of_ble_eq_true rfl)) dL_law_267 ⟨Nat.le_of_ble_eq_true rfl, Nat.le_of_ble_eq_true rfl⟩) hP hD hS hA [2, 3, 4, 5, 6, 7, 8, 9, 0, 10, 11, 12, 13] rfl (fun _ => rfl) (fun r3 u1 H locs hw2 => ?_)
  clear hP hS
  intro hP hS
  obtain ⟨lf_4, rs_5⟩ := u1
  replace hw2 : (r3, (lf_4, rs_5)) = sp_set (nx 2) rs (fx 1) (fx 2) xk1 xk2 xk3 := hw2
  refine lv_pop hx hb dL_law_270 rfl ?_
  have hPx : va_P D vwCl (wX ad rw sd cI cY cJ cQ (upd nx 2 lf_4) fx rs_5 lo ++ wM md sd cI cY cJ cQ ny fy fl) H := hP
  have hDx : va_D (fun q : Nat => s.heap.size ≤ q) (wX ad rw sd cI cY cJ cQ (upd nx 2 lf_4) fx rs_5 lo ++ wM md sd cI cY cJ cQ ny fy fl) := wXM_D hD
  have hP := hPx.comm
  have hD := hDx.comm
  refine lv_aload_n hx hb dL_law_271 rfl (lv_at hl 2 rfl) ?_
  refine law_arg (v := 1) hx hb hX hbl hbA hS (lv_at hl 0 rfl) (lv_at hl 3 rfl) (by decide) hak1 exk1 dL_law_272 dL_law_273 dL_law_274 dL_law_275 dL_law_276 ?_
  refine law_arg (v := 2) hx hb hX hbl hbA hS (lv_at hl 0 rfl) (lv_at hl 3 rfl) (by decide) hak2 exk2 dL_law_277 dL_law_278 dL_law_279 dL_law_280 dL_law_281 ?_
  refine law_arg (v := 3) hx hb hX hbl hbA hS (lv_at hl 0 rfl) (lv_at hl 3 rfl) (by decide) hak3 exk3 dL_law_282 dL_law_283 dL_law_284 dL_law_285 dL_law_286 ?_
  refine st_iU (va_runV (C := RX11) (As := [.int xk1, .int xk2, .int xk3]) (rest := []) ⟨hx, hb, hml, hown, hts⟩ (ct_X11_set l D cI cY cJ cQ _ md sd (ny 0) (ny 1) (ny 2) (ny 3) (ny 4) (ny 5) (ny 6) (ny 7) (ny 8) (ny 9) (ny 10) (ny 11) (ny 12) (ny 13) (ny 14) (ny 15) (ny 16) (ny 17) (ny 18) (ny 19) (ny 20) (ny 21) (ny 22) (fy 0) (fy 1) (fy 2) xk1 xk2 xk3 MS) (cwV 3 hts gL_law_X11_set rfl rfl rfl ⟨rfl, cdX11_set⟩ ⟨Nat.le_of_ble_eq_true rfl, Nat.le_of_ble_eq_true rfl⟩) (cPreV (hP.sub [0, 1, 2, 3] rfl) hK (hD.sub [0, 1, 2, 3] (by decide +kernel) rfl) hN (ci := 11) (q0 := 0) rfl rfl) rfl rfl hl.1 rfl (lv_room (Nat.le_of_ble_eq_true rfl)) dL_law_287 ⟨Nat.le_of_ble_eq_true rfl, Nat.le_of_ble_eq_true rfl⟩) hP hD hS hA [0, 1, 2, 3] rfl (fun _ => rfl) (fun r8 u6 H locs hw7 => ?_)
  clear hP hS
  intro hP hS
  obtain ⟨mst_9, mi_10⟩ := u6
  replace hw7 : ps_set (ny 1) (fy 0) (fy 1) (fy 2) xk1 xk2 xk3 r8 mst_9 mi_10 := hw7
  obtain ⟨e90, e9sh, e9st⟩ := shR_set Csh MS hw2 hw7
  refine lv_pop hx hb dL_law_290 rfl ?_
  refine lv_goto (tgt := 1652) hx hb dL_law_291 (by decide) ?_
  have hPm : va_P D vwCl (wM md sd cI cY cJ cQ (upd (upd ny 0 0) 1 mst_9) (upR fy 2 mi_10) fl ++ wX ad rw sd cI cY cJ cQ (upd nx 2 lf_4) fx rs_5 lo) H := hP
  have hDm : va_D (fun q : Nat => s.heap.size ≤ q) (wM md sd cI cY cJ cQ (upd (upd ny 0 0) 1 mst_9) (upR fy 2 mi_10) fl ++ wX ad rw sd cI cY cJ cQ (upd nx 2 lf_4) fx rs_5 lo) := wMX_D hD
  exact kk (upd nx 2 lf_4) fx rs_5 lo (upd (upd ny 0 0) 1 mst_9) (upR fy 2 mi_10) fl H locs ls ⟨Xhna, Xhnb, XH, XD, XV, XN, Xcna, Xcnb, XF, Xpna, Xpnb, XG, XO, XW, Xgna, Xgnb, XJ, Xlna, Xlnb, Xdla, Xdlb, Xana, Xanb, Xuna, Xunb, XU, Xlca, Xlcb, Xtna, Xtnb, XS, Mhna, Mhnb, MH, MS, Mmlna, Mmlnb, Mmtna, Mmtnb, Chn, Cho, Chc, Chp, Chs, Ccn, Cfo, Cwo, Cpn, Cpk, Cpf, Cpo, Cpd, Cpe, Cgn, Cgk, Cgs, Cgd, Cge, Can, Cak, Cah, Cay, Caz, Cun, Cuk, Cuy, Cuw, Cum, Clc, Clp, Cla, Clb, Caw, Ciw, Cln, Ctd, Cro, Cmtn, Cmtr, (show (mst_9) = (lf_4) from e9st Cmst), (show shR (fy 0) (fy 1) (mi_10) (fx 1) (fx 2) rs_5 from e9sh)⟩ hPm.comm hDm.comm hS hl

set_option maxHeartbeats 4000000 in
set_option maxRecDepth 100000 in
theorem law_case_2 {p : Program} {l : Launch} {e : Env} {s : State} {m : MethodId} {below : List Frame} {meth : Method} {c : Code} {D : va_G} {cI cY cJ cQ : ClassId} {b L aK aV : Nat} {xs : Nat → Int32} {ad rw md : Nat → Nat} {sd i : Int32} {nx : Nat → Int32} {fx rs : Nat → Nat → Int32} {lo : Nat → Int64} {ny : Nat → Int32} {fy : Nat → Nat → Int32} {fl : Nat → Int64} {H : Heap} {locs : List Loc} {ls : Array Slot} (C0 : lawC p s m meth c b L xs D cI cY cJ cQ aK aV) (I : inv nx fx rs ny fy) (hP : va_P D vwCl (wX ad rw sd cI cY cJ cQ nx fx rs lo ++ wM md sd cI cY cJ cQ ny fy fl) H) (hD : va_D (fun q : Nat => s.heap.size ≤ q) (wX ad rw sd cI cY cJ cQ nx fx rs lo ++ wM md sd cI cY cJ cQ ny fy fl)) (hS : va_S (fun q : Nat => s.heap.size ≤ q) s.heap H locs) (hl : lv_has ls 4 [(0, .ref b), (1, .ref (ad 0)), (2, .ref (md 64)), (3, .int i)]) (hi1 : 1 ≤ i.toInt) (hi2 : i.toInt + 5 < L) (kk : ∀ (nx : Nat → Int32) (fx rs : Nat → Nat → Int32) (lo : Nat → Int64) (ny : Nat → Int32) (fy : Nat → Nat → Int32) (fl : Nat → Int64) (H : Heap) (locs : List Loc) (ls : Array Slot), inv nx fx rs ny fy → va_P D vwCl (wX ad rw sd cI cY cJ cQ nx fx rs lo ++ wM md sd cI cY cJ cQ ny fy fl) H → va_D (fun q : Nat => s.heap.size ≤ q) (wX ad rw sd cI cY cJ cQ nx fx rs lo ++ wM md sd cI cY cJ cQ ny fy fl) → va_S (fun q : Nat => s.heap.size ≤ q) s.heap H locs → lv_has ls 4 [(0, .ref b), (1, .ref (ad 0)), (2, .ref (md 64)), (3, .int i)] → W p l e room_1 s m #[Value.ref b] below meth c H locs 107 4890 (lw_Z below #[Value.ref b] s) (F0 m 1652 ls [])) : W p l e room_1 s m #[Value.ref b] below meth c H locs 107 4890 (lw_Z below #[Value.ref b] s) (F0 m 294 ls []) := by
  obtain ⟨C1, hK, hN, hT, hL⟩ := C0
  obtain ⟨hx, hb, hr, hml, hown, hts0, hX, hbl, hlocks, hgv⟩ := C1
  have hA : ∀ q : Nat, s.heap.size ≤ q → (fun q : Nat => s.heap.size ≤ q) q := fun _ h => h
  have hbA : ¬ (fun q : Nat => s.heap.size ≤ q) b := Nat.not_le.mpr hbl
  have hts : ∀ w ∈ wsL_law, w.before #[Value.ref b] s = true := fun w h => hts0 w (wsL_law_in w h)
  replace hown : s.vm.findClass RL = some m.cls := hown
  replace hb : c.code = cL_law := hb
  have hak1 : vp_in (i + 1) L := law_in hi1 hi2 hL (by decide)
  obtain ⟨xk1, exk1⟩ : ∃ y : Int32, y = xs (i + 1).toNatClampNeg := ⟨_, rfl⟩
  have hak2 : vp_in (i + 2) L := law_in hi1 hi2 hL (by decide)
  obtain ⟨xk2, exk2⟩ : ∃ y : Int32, y = xs (i + 2).toNatClampNeg := ⟨_, rfl⟩
  have hak3 : vp_in (i + 3) L := law_in hi1 hi2 hL (by decide)
  obtain ⟨xk3, exk3⟩ : ∃ y : Int32, y = xs (i + 3).toNatClampNeg := ⟨_, rfl⟩
  have hak4 : vp_in (i + 4) L := law_in hi1 hi2 hL (by decide)
  obtain ⟨xk4, exk4⟩ : ∃ y : Int32, y = xs (i + 4).toNatClampNeg := ⟨_, rfl⟩
  have hak5 : vp_in (i + 5) L := law_in hi1 hi2 hL (by decide)
  obtain ⟨xk5, exk5⟩ : ∃ y : Int32, y = xs (i + 5).toNatClampNeg := ⟨_, rfl⟩
  refine inv_el I ?_
  intro Xhna Xhnb XH XD XV XN Xcna Xcnb XF Xpna Xpnb XG XO XW Xgna Xgnb XJ Xlna Xlnb Xdla Xdlb Xana Xanb Xuna Xunb XU Xlca Xlcb Xtna Xtnb XS Mhna Mhnb MH MS Mmlna Mmlnb Mmtna Mmtnb Chn Cho Chc Chp Chs Ccn Cfo Cwo Cpn Cpk Cpf Cpo Cpd Cpe Cgn Cgk Cgs Cgd Cge Can Cak Cah Cay Caz Cun Cuk Cuy Cuw Cum Clc Clp Cla Clb Caw Ciw Cln Ctd Cro Cmtn Cmtr Cmst Csh
  have Tcn := i_eq Ccn
  have Tpn := i_eq Cpn
  have Tgn := i_eq Cgn
  have Tan := i_eq Can
  have Tun := i_eq Cun
  have Tlc := i_eq Clc
  have Tln := i_eq Cln
  refine lv_aload_n hx hb dL_law_294 rfl (lv_at hl 1 rfl) ?_
  refine law_arg (v := 1) hx hb hX hbl hbA hS (lv_at hl 0 rfl) (lv_at hl 3 rfl) (by decide) hak1 exk1 dL_law_295 dL_law_296 dL_law_297 dL_law_298 dL_law_299 ?_
  refine law_arg (v := 2) hx hb hX hbl hbA hS (lv_at hl 0 rfl) (lv_at hl 3 rfl) (by decide) hak2 exk2 dL_law_300 dL_law_301 dL_law_302 dL_law_303 dL_law_304 ?_
  refine law_arg (v := 3) hx hb hX hbl hbA hS (lv_at hl 0 rfl) (lv_at hl 3 rfl) (by decide) hak3 exk3 dL_law_305 dL_law_306 dL_law_307 dL_law_308 dL_law_309 ?_
  refine law_arg (v := 4) hx hb hX hbl hbA hS (lv_at hl 0 rfl) (lv_at hl 3 rfl) (by decide) hak4 exk4 dL_law_310 dL_law_311 dL_law_312 dL_law_313 dL_law_314 ?_
  refine law_arg (v := 5) hx hb hX hbl hbA hS (lv_at hl 0 rfl) (lv_at hl 3 rfl) (by decide) hak5 exk5 dL_law_315 dL_law_316 dL_law_317 dL_law_318 dL_law_319 ?_
  refine st_iU (va_runV (C := RX10) (As := [.int xk1, .int xk2, .int xk3, .int xk4, .int xk5]) (rest := []) ⟨hx, hb, hml, hown, hts⟩ (ct_X10_copy l D cI cY cJ cQ _ ad rw rs (nx 0) (nx 1) (nx 2) (fx 1) (fx 2) xk1 xk2 xk3 xk4 xk5 XS) (cwV 5 hts gL_law_X10_copy rfl rfl rfl ⟨rfl, cdX10_copy⟩ ⟨Nat.le_of_ble_eq_true rfl, Nat.le_of_ble_eq_true rfl⟩) (cPreV (hP.sub [2, 3, 4, 5, 6, 7, 8, 9, 0, 10, 11, 12, 13] rfl) hK (hD.sub [2, 3, 4, 5, 6, 7, 8, 9, 0, 10, 11, 12, 13] (by decide +kernel) rfl) hN (ci := 10) (q0 := 8) rfl rfl) rfl rfl hl.1 rfl (lv_room (Nat.le_of_ble_eq_true rfl)) dL_law_320 ⟨Nat.le_of_ble_eq_true rfl, Nat.le_of_ble_eq_true rfl⟩) hP hD hS hA [2, 3, 4, 5, 6, 7, 8, 9, 0, 10, 11, 12, 13] rfl (fun _ => rfl) (fun r3 u1 H locs hw2 => ?_)
  clear hP hS
  intro hP hS
  obtain ⟨lf_4, rs_5⟩ := u1
  replace hw2 : (r3, (lf_4, rs_5)) = sp_copy (nx 2) rs (fx 1) (fx 2) xk1 xk2 xk3 xk4 xk5 := hw2
  refine lv_pop hx hb dL_law_323 rfl ?_
  have hPx : va_P D vwCl (wX ad rw sd cI cY cJ cQ (upd nx 2 lf_4) fx rs_5 lo ++ wM md sd cI cY cJ cQ ny fy fl) H := hP
  have hDx : va_D (fun q : Nat => s.heap.size ≤ q) (wX ad rw sd cI cY cJ cQ (upd nx 2 lf_4) fx rs_5 lo ++ wM md sd cI cY cJ cQ ny fy fl) := wXM_D hD
  have hP := hPx.comm
  have hD := hDx.comm
  refine lv_aload_n hx hb dL_law_324 rfl (lv_at hl 2 rfl) ?_
  refine law_arg (v := 1) hx hb hX hbl hbA hS (lv_at hl 0 rfl) (lv_at hl 3 rfl) (by decide) hak1 exk1 dL_law_325 dL_law_326 dL_law_327 dL_law_328 dL_law_329 ?_
  refine law_arg (v := 2) hx hb hX hbl hbA hS (lv_at hl 0 rfl) (lv_at hl 3 rfl) (by decide) hak2 exk2 dL_law_330 dL_law_331 dL_law_332 dL_law_333 dL_law_334 ?_
  refine law_arg (v := 3) hx hb hX hbl hbA hS (lv_at hl 0 rfl) (lv_at hl 3 rfl) (by decide) hak3 exk3 dL_law_335 dL_law_336 dL_law_337 dL_law_338 dL_law_339 ?_
  refine law_arg (v := 4) hx hb hX hbl hbA hS (lv_at hl 0 rfl) (lv_at hl 3 rfl) (by decide) hak4 exk4 dL_law_340 dL_law_341 dL_law_342 dL_law_343 dL_law_344 ?_
  refine law_arg (v := 5) hx hb hX hbl hbA hS (lv_at hl 0 rfl) (lv_at hl 3 rfl) (by decide) hak5 exk5 dL_law_345 dL_law_346 dL_law_347 dL_law_348 dL_law_349 ?_
  refine st_iU (va_runV (C := RX11) (As := [.int xk1, .int xk2, .int xk3, .int xk4, .int xk5]) (rest := []) ⟨hx, hb, hml, hown, hts⟩ (ct_X11_copy l D cI cY cJ cQ _ md sd (ny 0) (ny 1) (ny 2) (ny 3) (ny 4) (ny 5) (ny 6) (ny 7) (ny 8) (ny 9) (ny 10) (ny 11) (ny 12) (ny 13) (ny 14) (ny 15) (ny 16) (ny 17) (ny 18) (ny 19) (ny 20) (ny 21) (ny 22) (fy 0) (fy 1) (fy 2) xk1 xk2 xk3 xk4 xk5 MS) (cwV 5 hts gL_law_X11_copy rfl rfl rfl ⟨rfl, cdX11_copy⟩ ⟨Nat.le_of_ble_eq_true rfl, Nat.le_of_ble_eq_true rfl⟩) (cPreV (hP.sub [0, 1, 2, 3] rfl) hK (hD.sub [0, 1, 2, 3] (by decide +kernel) rfl) hN (ci := 11) (q0 := 0) rfl rfl) rfl rfl hl.1 rfl (lv_room (Nat.le_of_ble_eq_true rfl)) dL_law_350 ⟨Nat.le_of_ble_eq_true rfl, Nat.le_of_ble_eq_true rfl⟩) hP hD hS hA [0, 1, 2, 3] rfl (fun _ => rfl) (fun r8 u6 H locs hw7 => ?_)
  clear hP hS
  intro hP hS
  obtain ⟨mst_9, mi_10⟩ := u6
  replace hw7 : ps_copy (ny 1) (fy 0) (fy 1) (fy 2) xk1 xk2 xk3 xk4 xk5 r8 mst_9 mi_10 := hw7
  obtain ⟨e90, e9sh, e9st⟩ := shR_copy Csh MS hw2 hw7
  refine lv_pop hx hb dL_law_353 rfl ?_
  refine lv_goto (tgt := 1652) hx hb dL_law_354 (by decide) ?_
  have hPm : va_P D vwCl (wM md sd cI cY cJ cQ (upd (upd ny 0 0) 1 mst_9) (upR fy 2 mi_10) fl ++ wX ad rw sd cI cY cJ cQ (upd nx 2 lf_4) fx rs_5 lo) H := hP
  have hDm : va_D (fun q : Nat => s.heap.size ≤ q) (wM md sd cI cY cJ cQ (upd (upd ny 0 0) 1 mst_9) (upR fy 2 mi_10) fl ++ wX ad rw sd cI cY cJ cQ (upd nx 2 lf_4) fx rs_5 lo) := wMX_D hD
  exact kk (upd nx 2 lf_4) fx rs_5 lo (upd (upd ny 0 0) 1 mst_9) (upR fy 2 mi_10) fl H locs ls ⟨Xhna, Xhnb, XH, XD, XV, XN, Xcna, Xcnb, XF, Xpna, Xpnb, XG, XO, XW, Xgna, Xgnb, XJ, Xlna, Xlnb, Xdla, Xdlb, Xana, Xanb, Xuna, Xunb, XU, Xlca, Xlcb, Xtna, Xtnb, XS, Mhna, Mhnb, MH, MS, Mmlna, Mmlnb, Mmtna, Mmtnb, Chn, Cho, Chc, Chp, Chs, Ccn, Cfo, Cwo, Cpn, Cpk, Cpf, Cpo, Cpd, Cpe, Cgn, Cgk, Cgs, Cgd, Cge, Can, Cak, Cah, Cay, Caz, Cun, Cuk, Cuy, Cuw, Cum, Clc, Clp, Cla, Clb, Caw, Ciw, Cln, Ctd, Cro, Cmtn, Cmtr, (show (mst_9) = (lf_4) from e9st Cmst), (show shR (fy 0) (fy 1) (mi_10) (fx 1) (fx 2) rs_5 from e9sh)⟩ hPm.comm hDm.comm hS hl

set_option maxHeartbeats 4000000 in
set_option maxRecDepth 100000 in
theorem law_case_3 {p : Program} {l : Launch} {e : Env} {s : State} {m : MethodId} {below : List Frame} {meth : Method} {c : Code} {D : va_G} {cI cY cJ cQ : ClassId} {b L aK aV : Nat} {xs : Nat → Int32} {ad rw md : Nat → Nat} {sd i : Int32} {nx : Nat → Int32} {fx rs : Nat → Nat → Int32} {lo : Nat → Int64} {ny : Nat → Int32} {fy : Nat → Nat → Int32} {fl : Nat → Int64} {H : Heap} {locs : List Loc} {ls : Array Slot} (C0 : lawC p s m meth c b L xs D cI cY cJ cQ aK aV) (I : inv nx fx rs ny fy) (hP : va_P D vwCl (wX ad rw sd cI cY cJ cQ nx fx rs lo ++ wM md sd cI cY cJ cQ ny fy fl) H) (hD : va_D (fun q : Nat => s.heap.size ≤ q) (wX ad rw sd cI cY cJ cQ nx fx rs lo ++ wM md sd cI cY cJ cQ ny fy fl)) (hS : va_S (fun q : Nat => s.heap.size ≤ q) s.heap H locs) (hl : lv_has ls 4 [(0, .ref b), (1, .ref (ad 0)), (2, .ref (md 64)), (3, .int i)]) (hi1 : 1 ≤ i.toInt) (hi2 : i.toInt + 5 < L) (kk : ∀ (nx : Nat → Int32) (fx rs : Nat → Nat → Int32) (lo : Nat → Int64) (ny : Nat → Int32) (fy : Nat → Nat → Int32) (fl : Nat → Int64) (H : Heap) (locs : List Loc) (ls : Array Slot), inv nx fx rs ny fy → va_P D vwCl (wX ad rw sd cI cY cJ cQ nx fx rs lo ++ wM md sd cI cY cJ cQ ny fy fl) H → va_D (fun q : Nat => s.heap.size ≤ q) (wX ad rw sd cI cY cJ cQ nx fx rs lo ++ wM md sd cI cY cJ cQ ny fy fl) → va_S (fun q : Nat => s.heap.size ≤ q) s.heap H locs → lv_has ls 4 [(0, .ref b), (1, .ref (ad 0)), (2, .ref (md 64)), (3, .int i)] → W p l e room_1 s m #[Value.ref b] below meth c H locs 107 4890 (lw_Z below #[Value.ref b] s) (F0 m 1652 ls [])) : W p l e room_1 s m #[Value.ref b] below meth c H locs 107 4890 (lw_Z below #[Value.ref b] s) (F0 m 357 ls []) := by
  obtain ⟨C1, hK, hN, hT, hL⟩ := C0
  obtain ⟨hx, hb, hr, hml, hown, hts0, hX, hbl, hlocks, hgv⟩ := C1
  have hA : ∀ q : Nat, s.heap.size ≤ q → (fun q : Nat => s.heap.size ≤ q) q := fun _ h => h
  have hbA : ¬ (fun q : Nat => s.heap.size ≤ q) b := Nat.not_le.mpr hbl
  have hts : ∀ w ∈ wsL_law, w.before #[Value.ref b] s = true := fun w h => hts0 w (wsL_law_in w h)
  replace hown : s.vm.findClass RL = some m.cls := hown
  replace hb : c.code = cL_law := hb
  have hak1 : vp_in (i + 1) L := law_in hi1 hi2 hL (by decide)
  obtain ⟨xk1, exk1⟩ : ∃ y : Int32, y = xs (i + 1).toNatClampNeg := ⟨_, rfl⟩
  refine inv_el I ?_
  intro Xhna Xhnb XH XD XV XN Xcna Xcnb XF Xpna Xpnb XG XO XW Xgna Xgnb XJ Xlna Xlnb Xdla Xdlb Xana Xanb Xuna Xunb XU Xlca Xlcb Xtna Xtnb XS Mhna Mhnb MH MS Mmlna Mmlnb Mmtna Mmtnb Chn Cho Chc Chp Chs Ccn Cfo Cwo Cpn Cpk Cpf Cpo Cpd Cpe Cgn Cgk Cgs Cgd Cge Can Cak Cah Cay Caz Cun Cuk Cuy Cuw Cum Clc Clp Cla Clb Caw Ciw Cln Ctd Cro Cmtn Cmtr Cmst Csh
  have Tcn := i_eq Ccn
  have Tpn := i_eq Cpn
  have Tgn := i_eq Cgn
  have Tan := i_eq Can
  have Tun := i_eq Cun
  have Tlc := i_eq Clc
  have Tln := i_eq Cln
  refine lv_aload_n hx hb dL_law_357 rfl (lv_at hl 1 rfl) ?_
  refine law_arg (v := 1) hx hb hX hbl hbA hS (lv_at hl 0 rfl) (lv_at hl 3 rfl) (by decide) hak1 exk1 dL_law_358 dL_law_359 dL_law_360 dL_law_361 dL_law_362 ?_
  refine st_iU (va_runV (C := RX10) (As := [.int xk1]) (rest := []) ⟨hx, hb, hml, hown, hts⟩ (ct_X10_drop l D cI cY cJ cQ _ ad (nx 0) (nx 1) (nx 2) (fx 2) xk1) (cwV 1 hts gL_law_X10_drop rfl rfl rfl ⟨rfl, cdX10_drop⟩ ⟨Nat.le_of_ble_eq_true rfl, Nat.le_of_ble_eq_true rfl⟩) (cPreV (hP.sub [0, 10, 13] rfl) hK (hD.sub [0, 10, 13] (by decide +kernel) rfl) hN (ci := 10) (q0 := 0) rfl rfl) rfl rfl hl.1 rfl (lv_room (Nat.le_of_ble_eq_true rfl)) dL_law_363 ⟨Nat.le_of_ble_eq_true rfl, Nat.le_of_ble_eq_true rfl⟩) hP hD hS hA [0, 10, 13] rfl (fun _ => rfl) (fun r3 u1 H locs hw2 => ?_)
  clear hP hS
  intro hP hS
  obtain ⟨lf_4, ss_5⟩ := u1
  replace hw2 : (r3, (lf_4, ss_5)) = sp_drop (nx 2) (fx 2) xk1 := hw2
  have hw2s := sp_drop_ok hw2 XS
  refine lv_pop hx hb dL_law_366 rfl ?_
  have hPx : va_P D vwCl (wX ad rw sd cI cY cJ cQ (upd nx 2 lf_4) (upR fx 2 ss_5) rs lo ++ wM md sd cI cY cJ cQ ny fy fl) H := hP
  have hDx : va_D (fun q : Nat => s.heap.size ≤ q) (wX ad rw sd cI cY cJ cQ (upd nx 2 lf_4) (upR fx 2 ss_5) rs lo ++ wM md sd cI cY cJ cQ ny fy fl) := wXM_D hD
  have hP := hPx.comm
  have hD := hDx.comm
  refine lv_aload_n hx hb dL_law_367 rfl (lv_at hl 2 rfl) ?_
  refine law_arg (v := 1) hx hb hX hbl hbA hS (lv_at hl 0 rfl) (lv_at hl 3 rfl) (by decide) hak1 exk1 dL_law_368 dL_law_369 dL_law_370 dL_law_371 dL_law_372 ?_
  refine st_iU (va_runV (C := RX11) (As := [.int xk1]) (rest := []) ⟨hx, hb, hml, hown, hts⟩ (ct_X11_drop l D cI cY cJ cQ _ md sd (ny 0) (ny 1) (ny 2) (ny 3) (ny 4) (ny 5) (ny 6) (ny 7) (ny 8) (ny 9) (ny 10) (ny 11) (ny 12) (ny 13) (ny 14) (ny 15) (ny 16) (ny 17) (ny 18) (ny 19) (ny 20) (ny 21) (ny 22) (fy 0) (fy 1) xk1) (cwV 1 hts gL_law_X11_drop rfl rfl rfl ⟨rfl, cdX11_drop⟩ ⟨Nat.le_of_ble_eq_true rfl, Nat.le_of_ble_eq_true rfl⟩) (cPreV (hP.sub [0, 1, 2] rfl) hK (hD.sub [0, 1, 2] (by decide +kernel) rfl) hN (ci := 11) (q0 := 0) rfl rfl) rfl rfl hl.1 rfl (lv_room (Nat.le_of_ble_eq_true rfl)) dL_law_373 ⟨Nat.le_of_ble_eq_true rfl, Nat.le_of_ble_eq_true rfl⟩) hP hD hS hA [0, 1, 2] rfl (fun _ => rfl) (fun r8 u6 H locs hw7 => ?_)
  clear hP hS
  intro hP hS
  obtain ⟨mst_9, ml_10⟩ := u6
  replace hw7 : ps_drop (ny 1) (fy 0) (fy 1) xk1 r8 mst_9 ml_10 := hw7
  obtain ⟨e90, e9sh, e9st⟩ := shR_drop Csh MS hw2 hw7
  refine lv_pop hx hb dL_law_376 rfl ?_
  refine lv_goto (tgt := 1652) hx hb dL_law_377 (by decide) ?_
  have hPm : va_P D vwCl (wM md sd cI cY cJ cQ (upd (upd ny 0 0) 1 mst_9) (upR fy 0 ml_10) fl ++ wX ad rw sd cI cY cJ cQ (upd nx 2 lf_4) (upR fx 2 ss_5) rs lo) H := hP
  have hDm : va_D (fun q : Nat => s.heap.size ≤ q) (wM md sd cI cY cJ cQ (upd (upd ny 0 0) 1 mst_9) (upR fy 0 ml_10) fl ++ wX ad rw sd cI cY cJ cQ (upd nx 2 lf_4) (upR fx 2 ss_5) rs lo) := wMX_D hD
  exact kk (upd nx 2 lf_4) (upR fx 2 ss_5) rs lo (upd (upd ny 0 0) 1 mst_9) (upR fy 0 ml_10) fl H locs ls ⟨Xhna, Xhnb, XH, XD, XV, XN, Xcna, Xcnb, XF, Xpna, Xpnb, XG, XO, XW, Xgna, Xgnb, XJ, Xlna, Xlnb, Xdla, Xdlb, Xana, Xanb, Xuna, Xunb, XU, Xlca, Xlcb, Xtna, Xtnb, (show okS (ss_5) by assumption), Mhna, Mhnb, MH, MS, Mmlna, Mmlnb, Mmtna, Mmtnb, Chn, Cho, Chc, Chp, Chs, Ccn, Cfo, Cwo, Cpn, Cpk, Cpf, Cpo, Cpd, Cpe, Cgn, Cgk, Cgs, Cgd, Cge, Can, Cak, Cah, Cay, Caz, Cun, Cuk, Cuy, Cuw, Cum, Clc, Clp, Cla, Clb, Caw, Ciw, Cln, Ctd, Cro, Cmtn, Cmtr, (show (mst_9) = (lf_4) from e9st Cmst), (show shR (ml_10) (fy 1) (fy 2) (fx 1) (ss_5) rs from e9sh)⟩ hPm.comm hDm.comm hS hl
end

section
theorem cdX10_holds : yX10_holds.cls ≠ "java/lang/invoke/MethodHandle" ∧ yX10_holds.cls ≠ "java/lang/invoke/VarHandle" ∧ (parseMethodDescriptor yX10_holds.desc).map (fun d => d.parameters.length) = some 3 := by decide +kernel
theorem cdX10_percent : yX10_percent.cls ≠ "java/lang/invoke/MethodHandle" ∧ yX10_percent.cls ≠ "java/lang/invoke/VarHandle" ∧ (parseMethodDescriptor yX10_percent.desc).map (fun d => d.parameters.length) = some 3 := by decide +kernel
theorem cdX10_share : yX10_share.cls ≠ "java/lang/invoke/MethodHandle" ∧ yX10_share.cls ≠ "java/lang/invoke/VarHandle" ∧ (parseMethodDescriptor yX10_share.desc).map (fun d => d.parameters.length) = some 3 := by decide +kernel
theorem cdX11_hold : yX11_hold.cls ≠ "java/lang/invoke/MethodHandle" ∧ yX11_hold.cls ≠ "java/lang/invoke/VarHandle" ∧ (parseMethodDescriptor yX11_hold.desc).map (fun d => d.parameters.length) = some 4 := by decide +kernel
theorem cdX11_holds : yX11_holds.cls ≠ "java/lang/invoke/MethodHandle" ∧ yX11_holds.cls ≠ "java/lang/invoke/VarHandle" ∧ (parseMethodDescriptor yX11_holds.desc).map (fun d => d.parameters.length) = some 3 := by decide +kernel
theorem cdX11_percent : yX11_percent.cls ≠ "java/lang/invoke/MethodHandle" ∧ yX11_percent.cls ≠ "java/lang/invoke/VarHandle" ∧ (parseMethodDescriptor yX11_percent.desc).map (fun d => d.parameters.length) = some 3 := by decide +kernel
theorem cdX11_share : yX11_share.cls ≠ "java/lang/invoke/MethodHandle" ∧ yX11_share.cls ≠ "java/lang/invoke/VarHandle" ∧ (parseMethodDescriptor yX11_share.desc).map (fun d => d.parameters.length) = some 3 := by decide +kernel
theorem Gd_X10_holds : gdA wsX10_holds := gd_cons (by decide +kernel) (gd_app (gd_all (ws := wsX10_holds_o1) (by decide +kernel)) (gd_app (gd_app (gd_app (gd_app Gd_X100 Gd_X90) Gd_X30) (gd_app Gd_X10_isBelow Gd_X10_isFrom)) (gd_app (gd_app (gd_app Gd_X9_isMissing Gd_X10_finding) Gd_X9_hasPlaces) (gd_app Gd_X10_hold Gd_X10_passed))))
theorem Gd_X10_percent : gdA wsX10_percent := gd_cons (by decide +kernel) (gd_app (gd_all (ws := wsX10_percent_o1) (by decide +kernel)) (gd_app (gd_app (gd_app Gd_X100 Gd_X30) Gd_X10_isPair) (gd_app (gd_app Gd_X10_isDay Gd_X3_lookAt) Gd_X3_partOf)))
theorem Gd_X10_share : gdA wsX10_share := gd_cons (by decide +kernel) (gd_app (gd_all (ws := wsX10_share_o1) (by decide +kernel)) (gd_app (gd_app (gd_app Gd_X100 Gd_X30) (gd_app Gd_X10_isPerson Gd_X10_isOwner)) (gd_app (gd_app Gd_X10_isDay Gd_X3_lookAt) Gd_X3_shareOf)))
theorem Gd_X11_hold : gdA wsX11_hold := gd_cons (by decide +kernel) (gd_app (gd_all (ws := wsX11_hold_o1) (by decide +kernel)) (gd_app Gd_X110 Gd_X11_holding))
theorem Gd_X11_holds : gdA wsX11_holds := gd_cons (by decide +kernel) (gd_app (gd_all (ws := wsX11_holds_o1) (by decide +kernel)) (gd_app (gd_app (gd_app Gd_X110 Gd_X11_isSheet) Gd_X11_in) (gd_app Gd_X11_found Gd_X11_holding)))
theorem Gd_X11_percent : gdA wsX11_percent := gd_cons (by decide +kernel) (gd_app (gd_all (ws := wsX11_percent_o1) (by decide +kernel)) (gd_app (gd_app (gd_app Gd_X110 Gd_X11_isOwner) Gd_X11_isCompany) (gd_app Gd_X11_isDay Gd_X11_percentOf)))
theorem Gd_X11_share : gdA wsX11_share := gd_cons (by decide +kernel) (gd_app (gd_all (ws := wsX11_share_o1) (by decide +kernel)) (gd_app (gd_app (gd_app Gd_X110 Gd_X11_isPerson) Gd_X11_isOwner) (gd_app Gd_X11_isDay Gd_X11_shareOf)))
theorem ggL_law_X10_hold : GoodIn wsL_law wsX10_hold := goodIn_s (fun _ h => (wm_r (wm_l (wm_r (wm_l (wm_l (wm_l (wm_l (wm_l h))))))))) Gd_X10_hold
theorem gL_law_X10_hold : GoodIn wsL_law (wsV RL 40 RX10 yX10_hold wsX10_hold) := goodIn_V (own := RL) (idx := 40) (C := RX10) (y := yX10_hold) (wm_l (wm_l (wm_l (wm_l (wm_r (wm_i 14 rfl)))))) (wm_l (wm_l (wm_l (wm_l (wm_r (wm_i 15 rfl)))))) (wm_r (wm_l (wm_r (wm_l (wm_l (wm_l (wm_r (wm_t (wm_l (wm_i 20 rfl)))))))))) (wm_l (wm_l (wm_l (wm_l (wm_l (wm_i 2 rfl)))))) ggL_law_X10_hold
theorem ggL_law_X11_hold : GoodIn wsL_law wsX11_hold := goodIn_s (fun _ h => (wm_r (wm_l (wm_r (wm_l (wm_l (wm_l (wm_l (wm_r h))))))))) Gd_X11_hold
theorem gL_law_X11_hold : GoodIn wsL_law (wsV RL 44 RX11 yX11_hold wsX11_hold) := goodIn_V (own := RL) (idx := 44) (C := RX11) (y := yX11_hold) (wm_l (wm_l (wm_l (wm_l (wm_r (wm_i 16 rfl)))))) (wm_l (wm_l (wm_l (wm_l (wm_r (wm_i 17 rfl)))))) (wm_l (wm_l (wm_l (wm_l (wm_r (wm_i 18 rfl)))))) (wm_l (wm_l (wm_l (wm_l (wm_l (wm_i 5 rfl)))))) ggL_law_X11_hold
theorem ggL_law_X10_holds : GoodIn wsL_law wsX10_holds := goodIn_s (fun _ h => (wm_r (wm_l (wm_r (wm_l (wm_l (wm_l (wm_r h)))))))) Gd_X10_holds
theorem gL_law_X10_holds : GoodIn wsL_law (wsV RL 45 RX10 yX10_holds wsX10_holds) := goodIn_V (own := RL) (idx := 45) (C := RX10) (y := yX10_holds) (wm_l (wm_l (wm_l (wm_l (wm_r (wm_i 19 rfl)))))) (wm_l (wm_l (wm_l (wm_l (wm_r (wm_i 20 rfl)))))) (wm_l (wm_l (wm_l (wm_l (wm_r (wm_i 21 rfl)))))) (wm_l (wm_l (wm_l (wm_l (wm_l (wm_i 2 rfl)))))) ggL_law_X10_holds
theorem ggL_law_X11_holds : GoodIn wsL_law wsX11_holds := goodIn_s (fun _ h => (wm_r (wm_l (wm_r (wm_l (wm_l (wm_r (wm_l (wm_l h))))))))) Gd_X11_holds
theorem gL_law_X11_holds : GoodIn wsL_law (wsV RL 48 RX11 yX11_holds wsX11_holds) := goodIn_V (own := RL) (idx := 48) (C := RX11) (y := yX11_holds) (wm_l (wm_l (wm_l (wm_l (wm_r (wm_i 22 rfl)))))) (wm_l (wm_l (wm_l (wm_l (wm_r (wm_i 23 rfl)))))) (wm_l (wm_l (wm_l (wm_r (wm_i 0 rfl))))) (wm_l (wm_l (wm_l (wm_l (wm_l (wm_i 5 rfl)))))) ggL_law_X11_holds
theorem ggL_law_X10_percent : GoodIn wsL_law wsX10_percent := goodIn_s (fun _ h => (wm_r (wm_l (wm_r (wm_l (wm_l (wm_r (wm_l (wm_r h))))))))) Gd_X10_percent
theorem gL_law_X10_percent : GoodIn wsL_law (wsV RL 49 RX10 yX10_percent wsX10_percent) := goodIn_V (own := RL) (idx := 49) (C := RX10) (y := yX10_percent) (wm_l (wm_l (wm_l (wm_r (wm_i 1 rfl))))) (wm_l (wm_l (wm_l (wm_r (wm_i 2 rfl))))) (wm_l (wm_l (wm_l (wm_r (wm_i 3 rfl))))) (wm_l (wm_l (wm_l (wm_l (wm_l (wm_i 2 rfl)))))) ggL_law_X10_percent
theorem ggL_law_X11_percent : GoodIn wsL_law wsX11_percent := goodIn_s (fun _ h => (wm_r (wm_l (wm_r (wm_l (wm_l (wm_r (wm_r h)))))))) Gd_X11_percent
theorem gL_law_X11_percent : GoodIn wsL_law (wsV RL 52 RX11 yX11_percent wsX11_percent) := goodIn_V (own := RL) (idx := 52) (C := RX11) (y := yX11_percent) (wm_l (wm_l (wm_l (wm_r (wm_i 4 rfl))))) (wm_l (wm_l (wm_l (wm_r (wm_i 5 rfl))))) (wm_l (wm_l (wm_l (wm_r (wm_i 6 rfl))))) (wm_l (wm_l (wm_l (wm_l (wm_l (wm_i 5 rfl)))))) ggL_law_X11_percent
theorem ggL_law_X10_share : GoodIn wsL_law wsX10_share := goodIn_s (fun _ h => (wm_r (wm_l (wm_r (wm_l (wm_r (wm_l (wm_l (wm_l h))))))))) Gd_X10_share
theorem gL_law_X10_share : GoodIn wsL_law (wsV RL 53 RX10 yX10_share wsX10_share) := goodIn_V (own := RL) (idx := 53) (C := RX10) (y := yX10_share) (wm_l (wm_l (wm_l (wm_r (wm_i 7 rfl))))) (wm_l (wm_l (wm_l (wm_r (wm_i 8 rfl))))) (wm_l (wm_l (wm_l (wm_r (wm_i 9 rfl))))) (wm_l (wm_l (wm_l (wm_l (wm_l (wm_i 2 rfl)))))) ggL_law_X10_share
theorem ggL_law_X11_share : GoodIn wsL_law wsX11_share := goodIn_s (fun _ h => (wm_r (wm_l (wm_r (wm_l (wm_r (wm_l (wm_l (wm_r h))))))))) Gd_X11_share
theorem gL_law_X11_share : GoodIn wsL_law (wsV RL 56 RX11 yX11_share wsX11_share) := goodIn_V (own := RL) (idx := 56) (C := RX11) (y := yX11_share) (wm_l (wm_l (wm_l (wm_r (wm_i 10 rfl))))) (wm_l (wm_l (wm_l (wm_r (wm_i 11 rfl))))) (wm_l (wm_l (wm_l (wm_r (wm_i 12 rfl))))) (wm_l (wm_l (wm_l (wm_l (wm_l (wm_i 5 rfl)))))) ggL_law_X11_share
theorem sB_16 : dqA cL_law 384 sL_16 := dq_next sB_15 24 rfl
theorem sB_17 : dqA cL_law 408 sL_17 := dq_next sB_16 24 rfl
theorem sB_18 : dqA cL_law 432 sL_18 := dq_next sB_17 24 rfl
theorem sB_19 : dqA cL_law 456 sL_19 := dq_next sB_18 24 rfl
theorem sB_20 : dqA cL_law 480 sL_20 := dq_next sB_19 24 rfl
theorem sB_21 : dqA cL_law 504 sL_21 := dq_next sB_20 24 rfl
theorem sB_22 : dqA cL_law 528 sL_22 := dq_next sB_21 24 rfl
theorem sB_23 : dqA cL_law 552 sL_23 := dq_next sB_22 24 rfl
theorem dL_law_380 : decode cL_law 380 = .ok (.aload_n 1, 1) := dL_law_all14.2.2.2.2.2.2.2.2.1
theorem dL_law_381 : decode cL_law 381 = .ok (.aload_n 0, 1) := dL_law_all14.2.2.2.2.2.2.2.2.2.1
theorem dL_law_382 : decode cL_law 382 = .ok (.iload_n 3, 1) := dL_law_all14.2.2.2.2.2.2.2.2.2.2.1
theorem dL_law_383 : decode cL_law 383 = .ok (.iconst 1, 1) := dL_law_all14.2.2.2.2.2.2.2.2.2.2.2
theorem dL_law_all15 : decode cL_law 384 = .ok (.iadd, 1) ∧ decode cL_law 385 = .ok (.iaload, 1) ∧ decode cL_law 386 = .ok (.aload_n 0, 1) ∧ decode cL_law 387 = .ok (.iload_n 3, 1) ∧ decode cL_law 388 = .ok (.iconst 2, 1) ∧ decode cL_law 389 = .ok (.iadd, 1) ∧ decode cL_law 390 = .ok (.iaload, 1) ∧ decode cL_law 391 = .ok (.aload_n 0, 1) ∧ decode cL_law 392 = .ok (.iload_n 3, 1) ∧ decode cL_law 393 = .ok (.iconst 3, 1) ∧ decode cL_law 394 = .ok (.iadd, 1) ∧ decode cL_law 395 = .ok (.iaload, 1) := ⟨dq_96 sB_16 0 rfl, dq_46 sB_16 1 rfl, dq_42 sB_16 2 rfl, dq_29 sB_16 3 rfl, dq_5 sB_16 4 rfl, dq_96 sB_16 5 rfl, dq_46 sB_16 6 rfl, dq_42 sB_16 7 rfl, dq_29 sB_16 8 rfl, dq_6 sB_16 9 rfl, dq_96 sB_16 10 rfl, dq_46 sB_16 11 rfl⟩
theorem dL_law_384 : decode cL_law 384 = .ok (.iadd, 1) := dL_law_all15.1
theorem dL_law_385 : decode cL_law 385 = .ok (.iaload, 1) := dL_law_all15.2.1
theorem dL_law_386 : decode cL_law 386 = .ok (.aload_n 0, 1) := dL_law_all15.2.2.1
theorem dL_law_387 : decode cL_law 387 = .ok (.iload_n 3, 1) := dL_law_all15.2.2.2.1
theorem dL_law_388 : decode cL_law 388 = .ok (.iconst 2, 1) := dL_law_all15.2.2.2.2.1
theorem dL_law_389 : decode cL_law 389 = .ok (.iadd, 1) := dL_law_all15.2.2.2.2.2.1
theorem dL_law_390 : decode cL_law 390 = .ok (.iaload, 1) := dL_law_all15.2.2.2.2.2.2.1
theorem dL_law_391 : decode cL_law 391 = .ok (.aload_n 0, 1) := dL_law_all15.2.2.2.2.2.2.2.1
theorem dL_law_392 : decode cL_law 392 = .ok (.iload_n 3, 1) := dL_law_all15.2.2.2.2.2.2.2.2.1
theorem dL_law_393 : decode cL_law 393 = .ok (.iconst 3, 1) := dL_law_all15.2.2.2.2.2.2.2.2.2.1
theorem dL_law_394 : decode cL_law 394 = .ok (.iadd, 1) := dL_law_all15.2.2.2.2.2.2.2.2.2.2.1
theorem dL_law_395 : decode cL_law 395 = .ok (.iaload, 1) := dL_law_all15.2.2.2.2.2.2.2.2.2.2.2
theorem dL_law_all16 : decode cL_law 396 = .ok (.aload_n 0, 1) ∧ decode cL_law 397 = .ok (.iload_n 3, 1) ∧ decode cL_law 398 = .ok (.iconst 4, 1) ∧ decode cL_law 399 = .ok (.iadd, 1) ∧ decode cL_law 400 = .ok (.iaload, 1) ∧ decode cL_law 401 = .ok (.invokevirtual 40, 3) ∧ decode cL_law 404 = .ok (.pop, 1) ∧ decode cL_law 405 = .ok (.aload_n 2, 1) ∧ decode cL_law 406 = .ok (.aload_n 0, 1) ∧ decode cL_law 407 = .ok (.iload_n 3, 1) ∧ decode cL_law 408 = .ok (.iconst 1, 1) ∧ decode cL_law 409 = .ok (.iadd, 1) := ⟨dq_42 sB_16 12 rfl, dq_29 sB_16 13 rfl, dq_7 sB_16 14 rfl, dq_96 sB_16 15 rfl, dq_46 sB_16 16 rfl, dq_182 sB_16 17 rfl 40 (by decide), dq_87 sB_16 20 rfl, dq_44 sB_16 21 rfl, dq_42 sB_16 22 rfl, dq_29 sB_16 23 rfl, dq_4 sB_17 0 rfl, dq_96 sB_17 1 rfl⟩
theorem dL_law_396 : decode cL_law 396 = .ok (.aload_n 0, 1) := dL_law_all16.1
theorem dL_law_397 : decode cL_law 397 = .ok (.iload_n 3, 1) := dL_law_all16.2.1
theorem dL_law_398 : decode cL_law 398 = .ok (.iconst 4, 1) := dL_law_all16.2.2.1
theorem dL_law_399 : decode cL_law 399 = .ok (.iadd, 1) := dL_law_all16.2.2.2.1
theorem dL_law_400 : decode cL_law 400 = .ok (.iaload, 1) := dL_law_all16.2.2.2.2.1
theorem dL_law_401 : decode cL_law 401 = .ok (.invokevirtual 40, 3) := dL_law_all16.2.2.2.2.2.1
theorem dL_law_404 : decode cL_law 404 = .ok (.pop, 1) := dL_law_all16.2.2.2.2.2.2.1
theorem dL_law_405 : decode cL_law 405 = .ok (.aload_n 2, 1) := dL_law_all16.2.2.2.2.2.2.2.1
theorem dL_law_406 : decode cL_law 406 = .ok (.aload_n 0, 1) := dL_law_all16.2.2.2.2.2.2.2.2.1
theorem dL_law_407 : decode cL_law 407 = .ok (.iload_n 3, 1) := dL_law_all16.2.2.2.2.2.2.2.2.2.1
theorem dL_law_408 : decode cL_law 408 = .ok (.iconst 1, 1) := dL_law_all16.2.2.2.2.2.2.2.2.2.2.1
theorem dL_law_409 : decode cL_law 409 = .ok (.iadd, 1) := dL_law_all16.2.2.2.2.2.2.2.2.2.2.2
theorem dL_law_all17 : decode cL_law 410 = .ok (.iaload, 1) ∧ decode cL_law 411 = .ok (.aload_n 0, 1) ∧ decode cL_law 412 = .ok (.iload_n 3, 1) ∧ decode cL_law 413 = .ok (.iconst 2, 1) ∧ decode cL_law 414 = .ok (.iadd, 1) ∧ decode cL_law 415 = .ok (.iaload, 1) ∧ decode cL_law 416 = .ok (.aload_n 0, 1) ∧ decode cL_law 417 = .ok (.iload_n 3, 1) ∧ decode cL_law 418 = .ok (.iconst 3, 1) ∧ decode cL_law 419 = .ok (.iadd, 1) ∧ decode cL_law 420 = .ok (.iaload, 1) ∧ decode cL_law 421 = .ok (.aload_n 0, 1) := ⟨dq_46 sB_17 2 rfl, dq_42 sB_17 3 rfl, dq_29 sB_17 4 rfl, dq_5 sB_17 5 rfl, dq_96 sB_17 6 rfl, dq_46 sB_17 7 rfl, dq_42 sB_17 8 rfl, dq_29 sB_17 9 rfl, dq_6 sB_17 10 rfl, dq_96 sB_17 11 rfl, dq_46 sB_17 12 rfl, dq_42 sB_17 13 rfl⟩
theorem dL_law_410 : decode cL_law 410 = .ok (.iaload, 1) := dL_law_all17.1
theorem dL_law_411 : decode cL_law 411 = .ok (.aload_n 0, 1) := dL_law_all17.2.1
theorem dL_law_412 : decode cL_law 412 = .ok (.iload_n 3, 1) := dL_law_all17.2.2.1
theorem dL_law_413 : decode cL_law 413 = .ok (.iconst 2, 1) := dL_law_all17.2.2.2.1
theorem dL_law_414 : decode cL_law 414 = .ok (.iadd, 1) := dL_law_all17.2.2.2.2.1
theorem dL_law_415 : decode cL_law 415 = .ok (.iaload, 1) := dL_law_all17.2.2.2.2.2.1
theorem dL_law_416 : decode cL_law 416 = .ok (.aload_n 0, 1) := dL_law_all17.2.2.2.2.2.2.1
theorem dL_law_417 : decode cL_law 417 = .ok (.iload_n 3, 1) := dL_law_all17.2.2.2.2.2.2.2.1
theorem dL_law_418 : decode cL_law 418 = .ok (.iconst 3, 1) := dL_law_all17.2.2.2.2.2.2.2.2.1
theorem dL_law_419 : decode cL_law 419 = .ok (.iadd, 1) := dL_law_all17.2.2.2.2.2.2.2.2.2.1
theorem dL_law_420 : decode cL_law 420 = .ok (.iaload, 1) := dL_law_all17.2.2.2.2.2.2.2.2.2.2.1
theorem dL_law_421 : decode cL_law 421 = .ok (.aload_n 0, 1) := dL_law_all17.2.2.2.2.2.2.2.2.2.2.2
theorem dL_law_all18 : decode cL_law 422 = .ok (.iload_n 3, 1) ∧ decode cL_law 423 = .ok (.iconst 4, 1) ∧ decode cL_law 424 = .ok (.iadd, 1) ∧ decode cL_law 425 = .ok (.iaload, 1) ∧ decode cL_law 426 = .ok (.invokevirtual 44, 3) ∧ decode cL_law 429 = .ok (.pop, 1) ∧ decode cL_law 430 = .ok (.goto 1222, 3) ∧ decode cL_law 433 = .ok (.aload_n 1, 1) ∧ decode cL_law 434 = .ok (.aload_n 0, 1) ∧ decode cL_law 435 = .ok (.iload_n 3, 1) ∧ decode cL_law 436 = .ok (.iconst 1, 1) ∧ decode cL_law 437 = .ok (.iadd, 1) := ⟨dq_29 sB_17 14 rfl, dq_7 sB_17 15 rfl, dq_96 sB_17 16 rfl, dq_46 sB_17 17 rfl, dq_182 sB_17 18 rfl 44 (by decide), dq_87 sB_17 21 rfl, dq_167 sB_17 22 rfl 1222 (by decide), dq_43 sB_18 1 rfl, dq_42 sB_18 2 rfl, dq_29 sB_18 3 rfl, dq_4 sB_18 4 rfl, dq_96 sB_18 5 rfl⟩
theorem dL_law_422 : decode cL_law 422 = .ok (.iload_n 3, 1) := dL_law_all18.1
theorem dL_law_423 : decode cL_law 423 = .ok (.iconst 4, 1) := dL_law_all18.2.1
theorem dL_law_424 : decode cL_law 424 = .ok (.iadd, 1) := dL_law_all18.2.2.1
theorem dL_law_425 : decode cL_law 425 = .ok (.iaload, 1) := dL_law_all18.2.2.2.1
theorem dL_law_426 : decode cL_law 426 = .ok (.invokevirtual 44, 3) := dL_law_all18.2.2.2.2.1
theorem dL_law_429 : decode cL_law 429 = .ok (.pop, 1) := dL_law_all18.2.2.2.2.2.1
theorem dL_law_430 : decode cL_law 430 = .ok (.goto 1222, 3) := dL_law_all18.2.2.2.2.2.2.1
theorem dL_law_433 : decode cL_law 433 = .ok (.aload_n 1, 1) := dL_law_all18.2.2.2.2.2.2.2.1
theorem dL_law_434 : decode cL_law 434 = .ok (.aload_n 0, 1) := dL_law_all18.2.2.2.2.2.2.2.2.1
theorem dL_law_435 : decode cL_law 435 = .ok (.iload_n 3, 1) := dL_law_all18.2.2.2.2.2.2.2.2.2.1
theorem dL_law_436 : decode cL_law 436 = .ok (.iconst 1, 1) := dL_law_all18.2.2.2.2.2.2.2.2.2.2.1
theorem dL_law_437 : decode cL_law 437 = .ok (.iadd, 1) := dL_law_all18.2.2.2.2.2.2.2.2.2.2.2
theorem dL_law_all19 : decode cL_law 438 = .ok (.iaload, 1) ∧ decode cL_law 439 = .ok (.aload_n 0, 1) ∧ decode cL_law 440 = .ok (.iload_n 3, 1) ∧ decode cL_law 441 = .ok (.iconst 2, 1) ∧ decode cL_law 442 = .ok (.iadd, 1) ∧ decode cL_law 443 = .ok (.iaload, 1) ∧ decode cL_law 444 = .ok (.aload_n 0, 1) ∧ decode cL_law 445 = .ok (.iload_n 3, 1) ∧ decode cL_law 446 = .ok (.iconst 3, 1) ∧ decode cL_law 447 = .ok (.iadd, 1) ∧ decode cL_law 448 = .ok (.iaload, 1) ∧ decode cL_law 449 = .ok (.invokevirtual 45, 3) := ⟨dq_46 sB_18 6 rfl, dq_42 sB_18 7 rfl, dq_29 sB_18 8 rfl, dq_5 sB_18 9 rfl, dq_96 sB_18 10 rfl, dq_46 sB_18 11 rfl, dq_42 sB_18 12 rfl, dq_29 sB_18 13 rfl, dq_6 sB_18 14 rfl, dq_96 sB_18 15 rfl, dq_46 sB_18 16 rfl, dq_182 sB_18 17 rfl 45 (by decide)⟩
theorem dL_law_438 : decode cL_law 438 = .ok (.iaload, 1) := dL_law_all19.1
theorem dL_law_439 : decode cL_law 439 = .ok (.aload_n 0, 1) := dL_law_all19.2.1
theorem dL_law_440 : decode cL_law 440 = .ok (.iload_n 3, 1) := dL_law_all19.2.2.1
theorem dL_law_441 : decode cL_law 441 = .ok (.iconst 2, 1) := dL_law_all19.2.2.2.1
theorem dL_law_442 : decode cL_law 442 = .ok (.iadd, 1) := dL_law_all19.2.2.2.2.1
theorem dL_law_443 : decode cL_law 443 = .ok (.iaload, 1) := dL_law_all19.2.2.2.2.2.1
theorem dL_law_444 : decode cL_law 444 = .ok (.aload_n 0, 1) := dL_law_all19.2.2.2.2.2.2.1
theorem dL_law_445 : decode cL_law 445 = .ok (.iload_n 3, 1) := dL_law_all19.2.2.2.2.2.2.2.1
theorem dL_law_446 : decode cL_law 446 = .ok (.iconst 3, 1) := dL_law_all19.2.2.2.2.2.2.2.2.1
theorem dL_law_447 : decode cL_law 447 = .ok (.iadd, 1) := dL_law_all19.2.2.2.2.2.2.2.2.2.1
theorem dL_law_448 : decode cL_law 448 = .ok (.iaload, 1) := dL_law_all19.2.2.2.2.2.2.2.2.2.2.1
theorem dL_law_449 : decode cL_law 449 = .ok (.invokevirtual 45, 3) := dL_law_all19.2.2.2.2.2.2.2.2.2.2.2
theorem dL_law_all20 : decode cL_law 452 = .ok (.pop, 1) ∧ decode cL_law 453 = .ok (.aload_n 2, 1) ∧ decode cL_law 454 = .ok (.aload_n 0, 1) ∧ decode cL_law 455 = .ok (.iload_n 3, 1) ∧ decode cL_law 456 = .ok (.iconst 1, 1) ∧ decode cL_law 457 = .ok (.iadd, 1) ∧ decode cL_law 458 = .ok (.iaload, 1) ∧ decode cL_law 459 = .ok (.aload_n 0, 1) ∧ decode cL_law 460 = .ok (.iload_n 3, 1) ∧ decode cL_law 461 = .ok (.iconst 2, 1) ∧ decode cL_law 462 = .ok (.iadd, 1) ∧ decode cL_law 463 = .ok (.iaload, 1) := ⟨dq_87 sB_18 20 rfl, dq_44 sB_18 21 rfl, dq_42 sB_18 22 rfl, dq_29 sB_18 23 rfl, dq_4 sB_19 0 rfl, dq_96 sB_19 1 rfl, dq_46 sB_19 2 rfl, dq_42 sB_19 3 rfl, dq_29 sB_19 4 rfl, dq_5 sB_19 5 rfl, dq_96 sB_19 6 rfl, dq_46 sB_19 7 rfl⟩
theorem dL_law_452 : decode cL_law 452 = .ok (.pop, 1) := dL_law_all20.1
theorem dL_law_453 : decode cL_law 453 = .ok (.aload_n 2, 1) := dL_law_all20.2.1
theorem dL_law_454 : decode cL_law 454 = .ok (.aload_n 0, 1) := dL_law_all20.2.2.1
theorem dL_law_455 : decode cL_law 455 = .ok (.iload_n 3, 1) := dL_law_all20.2.2.2.1
theorem dL_law_456 : decode cL_law 456 = .ok (.iconst 1, 1) := dL_law_all20.2.2.2.2.1
theorem dL_law_457 : decode cL_law 457 = .ok (.iadd, 1) := dL_law_all20.2.2.2.2.2.1
theorem dL_law_458 : decode cL_law 458 = .ok (.iaload, 1) := dL_law_all20.2.2.2.2.2.2.1
theorem dL_law_459 : decode cL_law 459 = .ok (.aload_n 0, 1) := dL_law_all20.2.2.2.2.2.2.2.1
theorem dL_law_460 : decode cL_law 460 = .ok (.iload_n 3, 1) := dL_law_all20.2.2.2.2.2.2.2.2.1
theorem dL_law_461 : decode cL_law 461 = .ok (.iconst 2, 1) := dL_law_all20.2.2.2.2.2.2.2.2.2.1
theorem dL_law_462 : decode cL_law 462 = .ok (.iadd, 1) := dL_law_all20.2.2.2.2.2.2.2.2.2.2.1
theorem dL_law_463 : decode cL_law 463 = .ok (.iaload, 1) := dL_law_all20.2.2.2.2.2.2.2.2.2.2.2
theorem dL_law_all21 : decode cL_law 464 = .ok (.aload_n 0, 1) ∧ decode cL_law 465 = .ok (.iload_n 3, 1) ∧ decode cL_law 466 = .ok (.iconst 3, 1) ∧ decode cL_law 467 = .ok (.iadd, 1) ∧ decode cL_law 468 = .ok (.iaload, 1) ∧ decode cL_law 469 = .ok (.invokevirtual 48, 3) ∧ decode cL_law 472 = .ok (.pop, 1) ∧ decode cL_law 473 = .ok (.goto 1179, 3) ∧ decode cL_law 476 = .ok (.aload_n 1, 1) ∧ decode cL_law 477 = .ok (.aload_n 0, 1) ∧ decode cL_law 478 = .ok (.iload_n 3, 1) ∧ decode cL_law 479 = .ok (.iconst 1, 1) := ⟨dq_42 sB_19 8 rfl, dq_29 sB_19 9 rfl, dq_6 sB_19 10 rfl, dq_96 sB_19 11 rfl, dq_46 sB_19 12 rfl, dq_182 sB_19 13 rfl 48 (by decide), dq_87 sB_19 16 rfl, dq_167 sB_19 17 rfl 1179 (by decide), dq_43 sB_19 20 rfl, dq_42 sB_19 21 rfl, dq_29 sB_19 22 rfl, dq_4 sB_19 23 rfl⟩
theorem dL_law_464 : decode cL_law 464 = .ok (.aload_n 0, 1) := dL_law_all21.1
theorem dL_law_465 : decode cL_law 465 = .ok (.iload_n 3, 1) := dL_law_all21.2.1
theorem dL_law_466 : decode cL_law 466 = .ok (.iconst 3, 1) := dL_law_all21.2.2.1
theorem dL_law_467 : decode cL_law 467 = .ok (.iadd, 1) := dL_law_all21.2.2.2.1
theorem dL_law_468 : decode cL_law 468 = .ok (.iaload, 1) := dL_law_all21.2.2.2.2.1
theorem dL_law_469 : decode cL_law 469 = .ok (.invokevirtual 48, 3) := dL_law_all21.2.2.2.2.2.1
theorem dL_law_472 : decode cL_law 472 = .ok (.pop, 1) := dL_law_all21.2.2.2.2.2.2.1
theorem dL_law_473 : decode cL_law 473 = .ok (.goto 1179, 3) := dL_law_all21.2.2.2.2.2.2.2.1
theorem dL_law_476 : decode cL_law 476 = .ok (.aload_n 1, 1) := dL_law_all21.2.2.2.2.2.2.2.2.1
theorem dL_law_477 : decode cL_law 477 = .ok (.aload_n 0, 1) := dL_law_all21.2.2.2.2.2.2.2.2.2.1
theorem dL_law_478 : decode cL_law 478 = .ok (.iload_n 3, 1) := dL_law_all21.2.2.2.2.2.2.2.2.2.2.1
theorem dL_law_479 : decode cL_law 479 = .ok (.iconst 1, 1) := dL_law_all21.2.2.2.2.2.2.2.2.2.2.2
theorem dL_law_all22 : decode cL_law 480 = .ok (.iadd, 1) ∧ decode cL_law 481 = .ok (.iaload, 1) ∧ decode cL_law 482 = .ok (.aload_n 0, 1) ∧ decode cL_law 483 = .ok (.iload_n 3, 1) ∧ decode cL_law 484 = .ok (.iconst 2, 1) ∧ decode cL_law 485 = .ok (.iadd, 1) ∧ decode cL_law 486 = .ok (.iaload, 1) ∧ decode cL_law 487 = .ok (.aload_n 0, 1) ∧ decode cL_law 488 = .ok (.iload_n 3, 1) ∧ decode cL_law 489 = .ok (.iconst 3, 1) ∧ decode cL_law 490 = .ok (.iadd, 1) ∧ decode cL_law 491 = .ok (.iaload, 1) := ⟨dq_96 sB_20 0 rfl, dq_46 sB_20 1 rfl, dq_42 sB_20 2 rfl, dq_29 sB_20 3 rfl, dq_5 sB_20 4 rfl, dq_96 sB_20 5 rfl, dq_46 sB_20 6 rfl, dq_42 sB_20 7 rfl, dq_29 sB_20 8 rfl, dq_6 sB_20 9 rfl, dq_96 sB_20 10 rfl, dq_46 sB_20 11 rfl⟩
theorem dL_law_480 : decode cL_law 480 = .ok (.iadd, 1) := dL_law_all22.1
theorem dL_law_481 : decode cL_law 481 = .ok (.iaload, 1) := dL_law_all22.2.1
theorem dL_law_482 : decode cL_law 482 = .ok (.aload_n 0, 1) := dL_law_all22.2.2.1
theorem dL_law_483 : decode cL_law 483 = .ok (.iload_n 3, 1) := dL_law_all22.2.2.2.1
theorem dL_law_484 : decode cL_law 484 = .ok (.iconst 2, 1) := dL_law_all22.2.2.2.2.1
theorem dL_law_485 : decode cL_law 485 = .ok (.iadd, 1) := dL_law_all22.2.2.2.2.2.1
theorem dL_law_486 : decode cL_law 486 = .ok (.iaload, 1) := dL_law_all22.2.2.2.2.2.2.1
theorem dL_law_487 : decode cL_law 487 = .ok (.aload_n 0, 1) := dL_law_all22.2.2.2.2.2.2.2.1
theorem dL_law_488 : decode cL_law 488 = .ok (.iload_n 3, 1) := dL_law_all22.2.2.2.2.2.2.2.2.1
theorem dL_law_489 : decode cL_law 489 = .ok (.iconst 3, 1) := dL_law_all22.2.2.2.2.2.2.2.2.2.1
theorem dL_law_490 : decode cL_law 490 = .ok (.iadd, 1) := dL_law_all22.2.2.2.2.2.2.2.2.2.2.1
theorem dL_law_491 : decode cL_law 491 = .ok (.iaload, 1) := dL_law_all22.2.2.2.2.2.2.2.2.2.2.2
theorem dL_law_all23 : decode cL_law 492 = .ok (.invokevirtual 49, 3) ∧ decode cL_law 495 = .ok (.pop, 1) ∧ decode cL_law 496 = .ok (.aload_n 2, 1) ∧ decode cL_law 497 = .ok (.aload_n 0, 1) ∧ decode cL_law 498 = .ok (.iload_n 3, 1) ∧ decode cL_law 499 = .ok (.iconst 1, 1) ∧ decode cL_law 500 = .ok (.iadd, 1) ∧ decode cL_law 501 = .ok (.iaload, 1) ∧ decode cL_law 502 = .ok (.aload_n 0, 1) ∧ decode cL_law 503 = .ok (.iload_n 3, 1) ∧ decode cL_law 504 = .ok (.iconst 2, 1) ∧ decode cL_law 505 = .ok (.iadd, 1) := ⟨dq_182 sB_20 12 rfl 49 (by decide), dq_87 sB_20 15 rfl, dq_44 sB_20 16 rfl, dq_42 sB_20 17 rfl, dq_29 sB_20 18 rfl, dq_4 sB_20 19 rfl, dq_96 sB_20 20 rfl, dq_46 sB_20 21 rfl, dq_42 sB_20 22 rfl, dq_29 sB_20 23 rfl, dq_5 sB_21 0 rfl, dq_96 sB_21 1 rfl⟩
theorem dL_law_492 : decode cL_law 492 = .ok (.invokevirtual 49, 3) := dL_law_all23.1
theorem dL_law_495 : decode cL_law 495 = .ok (.pop, 1) := dL_law_all23.2.1
theorem dL_law_496 : decode cL_law 496 = .ok (.aload_n 2, 1) := dL_law_all23.2.2.1
theorem dL_law_497 : decode cL_law 497 = .ok (.aload_n 0, 1) := dL_law_all23.2.2.2.1
theorem dL_law_498 : decode cL_law 498 = .ok (.iload_n 3, 1) := dL_law_all23.2.2.2.2.1
theorem dL_law_499 : decode cL_law 499 = .ok (.iconst 1, 1) := dL_law_all23.2.2.2.2.2.1
theorem dL_law_500 : decode cL_law 500 = .ok (.iadd, 1) := dL_law_all23.2.2.2.2.2.2.1
theorem dL_law_501 : decode cL_law 501 = .ok (.iaload, 1) := dL_law_all23.2.2.2.2.2.2.2.1
theorem dL_law_502 : decode cL_law 502 = .ok (.aload_n 0, 1) := dL_law_all23.2.2.2.2.2.2.2.2.1
theorem dL_law_503 : decode cL_law 503 = .ok (.iload_n 3, 1) := dL_law_all23.2.2.2.2.2.2.2.2.2.1
theorem dL_law_504 : decode cL_law 504 = .ok (.iconst 2, 1) := dL_law_all23.2.2.2.2.2.2.2.2.2.2.1
theorem dL_law_505 : decode cL_law 505 = .ok (.iadd, 1) := dL_law_all23.2.2.2.2.2.2.2.2.2.2.2
theorem dL_law_all24 : decode cL_law 506 = .ok (.iaload, 1) ∧ decode cL_law 507 = .ok (.aload_n 0, 1) ∧ decode cL_law 508 = .ok (.iload_n 3, 1) ∧ decode cL_law 509 = .ok (.iconst 3, 1) ∧ decode cL_law 510 = .ok (.iadd, 1) ∧ decode cL_law 511 = .ok (.iaload, 1) ∧ decode cL_law 512 = .ok (.invokevirtual 52, 3) ∧ decode cL_law 515 = .ok (.pop, 1) ∧ decode cL_law 516 = .ok (.goto 1136, 3) ∧ decode cL_law 519 = .ok (.aload_n 1, 1) ∧ decode cL_law 520 = .ok (.aload_n 0, 1) ∧ decode cL_law 521 = .ok (.iload_n 3, 1) := ⟨dq_46 sB_21 2 rfl, dq_42 sB_21 3 rfl, dq_29 sB_21 4 rfl, dq_6 sB_21 5 rfl, dq_96 sB_21 6 rfl, dq_46 sB_21 7 rfl, dq_182 sB_21 8 rfl 52 (by decide), dq_87 sB_21 11 rfl, dq_167 sB_21 12 rfl 1136 (by decide), dq_43 sB_21 15 rfl, dq_42 sB_21 16 rfl, dq_29 sB_21 17 rfl⟩
theorem dL_law_506 : decode cL_law 506 = .ok (.iaload, 1) := dL_law_all24.1
theorem dL_law_507 : decode cL_law 507 = .ok (.aload_n 0, 1) := dL_law_all24.2.1
theorem dL_law_508 : decode cL_law 508 = .ok (.iload_n 3, 1) := dL_law_all24.2.2.1
theorem dL_law_509 : decode cL_law 509 = .ok (.iconst 3, 1) := dL_law_all24.2.2.2.1
theorem dL_law_510 : decode cL_law 510 = .ok (.iadd, 1) := dL_law_all24.2.2.2.2.1
theorem dL_law_511 : decode cL_law 511 = .ok (.iaload, 1) := dL_law_all24.2.2.2.2.2.1
theorem dL_law_512 : decode cL_law 512 = .ok (.invokevirtual 52, 3) := dL_law_all24.2.2.2.2.2.2.1
theorem dL_law_515 : decode cL_law 515 = .ok (.pop, 1) := dL_law_all24.2.2.2.2.2.2.2.1
theorem dL_law_516 : decode cL_law 516 = .ok (.goto 1136, 3) := dL_law_all24.2.2.2.2.2.2.2.2.1
theorem dL_law_519 : decode cL_law 519 = .ok (.aload_n 1, 1) := dL_law_all24.2.2.2.2.2.2.2.2.2.1
theorem dL_law_520 : decode cL_law 520 = .ok (.aload_n 0, 1) := dL_law_all24.2.2.2.2.2.2.2.2.2.2.1
theorem dL_law_521 : decode cL_law 521 = .ok (.iload_n 3, 1) := dL_law_all24.2.2.2.2.2.2.2.2.2.2.2
theorem dL_law_all25 : decode cL_law 522 = .ok (.iconst 1, 1) ∧ decode cL_law 523 = .ok (.iadd, 1) ∧ decode cL_law 524 = .ok (.iaload, 1) ∧ decode cL_law 525 = .ok (.aload_n 0, 1) ∧ decode cL_law 526 = .ok (.iload_n 3, 1) ∧ decode cL_law 527 = .ok (.iconst 2, 1) ∧ decode cL_law 528 = .ok (.iadd, 1) ∧ decode cL_law 529 = .ok (.iaload, 1) ∧ decode cL_law 530 = .ok (.aload_n 0, 1) ∧ decode cL_law 531 = .ok (.iload_n 3, 1) ∧ decode cL_law 532 = .ok (.iconst 3, 1) ∧ decode cL_law 533 = .ok (.iadd, 1) := ⟨dq_4 sB_21 18 rfl, dq_96 sB_21 19 rfl, dq_46 sB_21 20 rfl, dq_42 sB_21 21 rfl, dq_29 sB_21 22 rfl, dq_5 sB_21 23 rfl, dq_96 sB_22 0 rfl, dq_46 sB_22 1 rfl, dq_42 sB_22 2 rfl, dq_29 sB_22 3 rfl, dq_6 sB_22 4 rfl, dq_96 sB_22 5 rfl⟩
theorem dL_law_522 : decode cL_law 522 = .ok (.iconst 1, 1) := dL_law_all25.1
theorem dL_law_523 : decode cL_law 523 = .ok (.iadd, 1) := dL_law_all25.2.1
theorem dL_law_524 : decode cL_law 524 = .ok (.iaload, 1) := dL_law_all25.2.2.1
theorem dL_law_525 : decode cL_law 525 = .ok (.aload_n 0, 1) := dL_law_all25.2.2.2.1
theorem dL_law_526 : decode cL_law 526 = .ok (.iload_n 3, 1) := dL_law_all25.2.2.2.2.1
theorem dL_law_527 : decode cL_law 527 = .ok (.iconst 2, 1) := dL_law_all25.2.2.2.2.2.1
theorem dL_law_528 : decode cL_law 528 = .ok (.iadd, 1) := dL_law_all25.2.2.2.2.2.2.1
theorem dL_law_529 : decode cL_law 529 = .ok (.iaload, 1) := dL_law_all25.2.2.2.2.2.2.2.1
theorem dL_law_530 : decode cL_law 530 = .ok (.aload_n 0, 1) := dL_law_all25.2.2.2.2.2.2.2.2.1
theorem dL_law_531 : decode cL_law 531 = .ok (.iload_n 3, 1) := dL_law_all25.2.2.2.2.2.2.2.2.2.1
theorem dL_law_532 : decode cL_law 532 = .ok (.iconst 3, 1) := dL_law_all25.2.2.2.2.2.2.2.2.2.2.1
theorem dL_law_533 : decode cL_law 533 = .ok (.iadd, 1) := dL_law_all25.2.2.2.2.2.2.2.2.2.2.2
theorem dL_law_all26 : decode cL_law 534 = .ok (.iaload, 1) ∧ decode cL_law 535 = .ok (.invokevirtual 53, 3) ∧ decode cL_law 538 = .ok (.pop, 1) ∧ decode cL_law 539 = .ok (.aload_n 2, 1) ∧ decode cL_law 540 = .ok (.aload_n 0, 1) ∧ decode cL_law 541 = .ok (.iload_n 3, 1) ∧ decode cL_law 542 = .ok (.iconst 1, 1) ∧ decode cL_law 543 = .ok (.iadd, 1) ∧ decode cL_law 544 = .ok (.iaload, 1) ∧ decode cL_law 545 = .ok (.aload_n 0, 1) ∧ decode cL_law 546 = .ok (.iload_n 3, 1) ∧ decode cL_law 547 = .ok (.iconst 2, 1) := ⟨dq_46 sB_22 6 rfl, dq_182 sB_22 7 rfl 53 (by decide), dq_87 sB_22 10 rfl, dq_44 sB_22 11 rfl, dq_42 sB_22 12 rfl, dq_29 sB_22 13 rfl, dq_4 sB_22 14 rfl, dq_96 sB_22 15 rfl, dq_46 sB_22 16 rfl, dq_42 sB_22 17 rfl, dq_29 sB_22 18 rfl, dq_5 sB_22 19 rfl⟩
theorem dL_law_534 : decode cL_law 534 = .ok (.iaload, 1) := dL_law_all26.1
theorem dL_law_535 : decode cL_law 535 = .ok (.invokevirtual 53, 3) := dL_law_all26.2.1
theorem dL_law_538 : decode cL_law 538 = .ok (.pop, 1) := dL_law_all26.2.2.1
theorem dL_law_539 : decode cL_law 539 = .ok (.aload_n 2, 1) := dL_law_all26.2.2.2.1
theorem dL_law_540 : decode cL_law 540 = .ok (.aload_n 0, 1) := dL_law_all26.2.2.2.2.1
theorem dL_law_541 : decode cL_law 541 = .ok (.iload_n 3, 1) := dL_law_all26.2.2.2.2.2.1
theorem dL_law_542 : decode cL_law 542 = .ok (.iconst 1, 1) := dL_law_all26.2.2.2.2.2.2.1
theorem dL_law_543 : decode cL_law 543 = .ok (.iadd, 1) := dL_law_all26.2.2.2.2.2.2.2.1
theorem dL_law_544 : decode cL_law 544 = .ok (.iaload, 1) := dL_law_all26.2.2.2.2.2.2.2.2.1
theorem dL_law_545 : decode cL_law 545 = .ok (.aload_n 0, 1) := dL_law_all26.2.2.2.2.2.2.2.2.2.1
theorem dL_law_546 : decode cL_law 546 = .ok (.iload_n 3, 1) := dL_law_all26.2.2.2.2.2.2.2.2.2.2.1
theorem dL_law_547 : decode cL_law 547 = .ok (.iconst 2, 1) := dL_law_all26.2.2.2.2.2.2.2.2.2.2.2
theorem dL_law_all27 : decode cL_law 548 = .ok (.iadd, 1) ∧ decode cL_law 549 = .ok (.iaload, 1) ∧ decode cL_law 550 = .ok (.aload_n 0, 1) ∧ decode cL_law 551 = .ok (.iload_n 3, 1) ∧ decode cL_law 552 = .ok (.iconst 3, 1) ∧ decode cL_law 553 = .ok (.iadd, 1) ∧ decode cL_law 554 = .ok (.iaload, 1) ∧ decode cL_law 555 = .ok (.invokevirtual 56, 3) ∧ decode cL_law 558 = .ok (.pop, 1) ∧ decode cL_law 559 = .ok (.goto 1093, 3) ∧ decode cL_law 562 = .ok (.aload_n 1, 1) ∧ decode cL_law 563 = .ok (.aload_n 0, 1) := ⟨dq_96 sB_22 20 rfl, dq_46 sB_22 21 rfl, dq_42 sB_22 22 rfl, dq_29 sB_22 23 rfl, dq_6 sB_23 0 rfl, dq_96 sB_23 1 rfl, dq_46 sB_23 2 rfl, dq_182 sB_23 3 rfl 56 (by decide), dq_87 sB_23 6 rfl, dq_167 sB_23 7 rfl 1093 (by decide), dq_43 sB_23 10 rfl, dq_42 sB_23 11 rfl⟩
theorem dL_law_548 : decode cL_law 548 = .ok (.iadd, 1) := dL_law_all27.1
theorem dL_law_549 : decode cL_law 549 = .ok (.iaload, 1) := dL_law_all27.2.1
theorem dL_law_550 : decode cL_law 550 = .ok (.aload_n 0, 1) := dL_law_all27.2.2.1
theorem dL_law_551 : decode cL_law 551 = .ok (.iload_n 3, 1) := dL_law_all27.2.2.2.1
theorem dL_law_552 : decode cL_law 552 = .ok (.iconst 3, 1) := dL_law_all27.2.2.2.2.1
theorem dL_law_553 : decode cL_law 553 = .ok (.iadd, 1) := dL_law_all27.2.2.2.2.2.1
theorem dL_law_554 : decode cL_law 554 = .ok (.iaload, 1) := dL_law_all27.2.2.2.2.2.2.1
theorem dL_law_555 : decode cL_law 555 = .ok (.invokevirtual 56, 3) := dL_law_all27.2.2.2.2.2.2.2.1
theorem dL_law_558 : decode cL_law 558 = .ok (.pop, 1) := dL_law_all27.2.2.2.2.2.2.2.2.1
theorem dL_law_559 : decode cL_law 559 = .ok (.goto 1093, 3) := dL_law_all27.2.2.2.2.2.2.2.2.2.1
set_option maxHeartbeats 4000000 in
set_option maxRecDepth 100000 in
theorem law_case_4 {p : Program} {l : Launch} {e : Env} {s : State} {m : MethodId} {below : List Frame} {meth : Method} {c : Code} {D : va_G} {cI cY cJ cQ : ClassId} {b L aK aV : Nat} {xs : Nat → Int32} {ad rw md : Nat → Nat} {sd i : Int32} {nx : Nat → Int32} {fx rs : Nat → Nat → Int32} {lo : Nat → Int64} {ny : Nat → Int32} {fy : Nat → Nat → Int32} {fl : Nat → Int64} {H : Heap} {locs : List Loc} {ls : Array Slot} (C0 : lawC p s m meth c b L xs D cI cY cJ cQ aK aV) (I : inv nx fx rs ny fy) (hP : va_P D vwCl (wX ad rw sd cI cY cJ cQ nx fx rs lo ++ wM md sd cI cY cJ cQ ny fy fl) H) (hD : va_D (fun q : Nat => s.heap.size ≤ q) (wX ad rw sd cI cY cJ cQ nx fx rs lo ++ wM md sd cI cY cJ cQ ny fy fl)) (hS : va_S (fun q : Nat => s.heap.size ≤ q) s.heap H locs) (hl : lv_has ls 4 [(0, .ref b), (1, .ref (ad 0)), (2, .ref (md 64)), (3, .int i)]) (hi1 : 1 ≤ i.toInt) (hi2 : i.toInt + 5 < L) (kk : ∀ (nx : Nat → Int32) (fx rs : Nat → Nat → Int32) (lo : Nat → Int64) (ny : Nat → Int32) (fy : Nat → Nat → Int32) (fl : Nat → Int64) (H : Heap) (locs : List Loc) (ls : Array Slot), inv nx fx rs ny fy → va_P D vwCl (wX ad rw sd cI cY cJ cQ nx fx rs lo ++ wM md sd cI cY cJ cQ ny fy fl) H → va_D (fun q : Nat => s.heap.size ≤ q) (wX ad rw sd cI cY cJ cQ nx fx rs lo ++ wM md sd cI cY cJ cQ ny fy fl) → va_S (fun q : Nat => s.heap.size ≤ q) s.heap H locs → lv_has ls 4 [(0, .ref b), (1, .ref (ad 0)), (2, .ref (md 64)), (3, .int i)] → W p l e room_1 s m #[Value.ref b] below meth c H locs 107 4890 (lw_Z below #[Value.ref b] s) (F0 m 1652 ls [])) : W p l e room_1 s m #[Value.ref b] below meth c H locs 107 4890 (lw_Z below #[Value.ref b] s) (F0 m 380 ls []) := by
  obtain ⟨C1, hK, hN, hT, hL⟩ := C0
  obtain ⟨hx, hb, hr, hml, hown, hts0, hX, hbl, hlocks, hgv⟩ := C1
  have hA : ∀ q : Nat, s.heap.size ≤ q → (fun q : Nat => s.heap.size ≤ q) q := fun _ h => h
  have hbA : ¬ (fun q : Nat => s.heap.size ≤ q) b := Nat.not_le.mpr hbl
  have hts : ∀ w ∈ wsL_law, w.before #[Value.ref b] s = true := fun w h => hts0 w (wsL_law_in w h)
  replace hown : s.vm.findClass RL = some m.cls := hown
  replace hb : c.code = cL_law := hb
  have hak1 : vp_in (i + 1) L := law_in hi1 hi2 hL (by decide)
  obtain ⟨xk1, exk1⟩ : ∃ y : Int32, y = xs (i + 1).toNatClampNeg := ⟨_, rfl⟩
  have hak2 : vp_in (i + 2) L := law_in hi1 hi2 hL (by decide)
  obtain ⟨xk2, exk2⟩ : ∃ y : Int32, y = xs (i + 2).toNatClampNeg := ⟨_, rfl⟩
  have hak3 : vp_in (i + 3) L := law_in hi1 hi2 hL (by decide)
  obtain ⟨xk3, exk3⟩ : ∃ y : Int32, y = xs (i + 3).toNatClampNeg := ⟨_, rfl⟩
  have hak4 : vp_in (i + 4) L := law_in hi1 hi2 hL (by decide)
  obtain ⟨xk4, exk4⟩ : ∃ y : Int32, y = xs (i + 4).toNatClampNeg := ⟨_, rfl⟩
  refine inv_el I ?_
  intro Xhna Xhnb XH XD XV XN Xcna Xcnb XF Xpna Xpnb XG XO XW Xgna Xgnb XJ Xlna Xlnb Xdla Xdlb Xana Xanb Xuna Xunb XU Xlca Xlcb Xtna Xtnb XS Mhna Mhnb MH MS Mmlna Mmlnb Mmtna Mmtnb Chn Cho Chc Chp Chs Ccn Cfo Cwo Cpn Cpk Cpf Cpo Cpd Cpe Cgn Cgk Cgs Cgd Cge Can Cak Cah Cay Caz Cun Cuk Cuy Cuw Cum Clc Clp Cla Clb Caw Ciw Cln Ctd Cro Cmtn Cmtr Cmst Csh
  have Tcn := i_eq Ccn
  have Tpn := i_eq Cpn
  have Tgn := i_eq Cgn
  have Tan := i_eq Can
  have Tun := i_eq Cun
  have Tlc := i_eq Clc
  have Tln := i_eq Cln
  refine lv_aload_n hx hb dL_law_380 rfl (lv_at hl 1 rfl) ?_
  refine law_arg (v := 1) hx hb hX hbl hbA hS (lv_at hl 0 rfl) (lv_at hl 3 rfl) (by decide) hak1 exk1 dL_law_381 dL_law_382 dL_law_383 dL_law_384 dL_law_385 ?_
  refine law_arg (v := 2) hx hb hX hbl hbA hS (lv_at hl 0 rfl) (lv_at hl 3 rfl) (by decide) hak2 exk2 dL_law_386 dL_law_387 dL_law_388 dL_law_389 dL_law_390 ?_
  refine law_arg (v := 3) hx hb hX hbl hbA hS (lv_at hl 0 rfl) (lv_at hl 3 rfl) (by decide) hak3 exk3 dL_law_391 dL_law_392 dL_law_393 dL_law_394 dL_law_395 ?_
  refine law_arg (v := 4) hx hb hX hbl hbA hS (lv_at hl 0 rfl) (lv_at hl 3 rfl) (by decide) hak4 exk4 dL_law_396 dL_law_397 dL_law_398 dL_law_399 dL_law_400 ?_
  refine st_iU (va_runV (C := RX10) (As := [.int xk1, .int xk2, .int xk3, .int xk4]) (rest := []) ⟨hx, hb, hml, hown, hts⟩ (ct_X10_hold l D cI cY cJ cQ _ ad (nx 0) (nx 1) (nx 2) (nx 3) (fx 3) (fx 4) (fx 5) (fx 6) xk1 xk2 xk3 xk4 Xhna Xhnb) (cwV 4 hts gL_law_X10_hold rfl rfl rfl ⟨rfl, cdX10_hold⟩ ⟨Nat.le_of_ble_eq_true rfl, Nat.le_of_ble_eq_true rfl⟩) (cPreV (hP.sub [0, 14, 15, 16, 17, 18] rfl) hK (hD.sub [0, 14, 15, 16, 17, 18] (by decide +kernel) rfl) hN (ci := 10) (q0 := 0) rfl rfl) rfl rfl hl.1 rfl (lv_room (Nat.le_of_ble_eq_true rfl)) dL_law_401 ⟨Nat.le_of_ble_eq_true rfl, Nat.le_of_ble_eq_true rfl⟩) hP hD hS hA [0, 14, 15, 16, 17, 18] rfl (fun _ => rfl) (fun r3 u1 H locs hw2 => ?_)
  clear hP hS
  intro hP hS
  obtain ⟨hn_4, ho_5, hc_6, hp_7, hs_8⟩ := u1
  replace hw2 : (r3, (hn_4, ho_5, hc_6, hp_7, hs_8)) = sp_hold (nx 3) (fx 3) (fx 4) (fx 5) (fx 6) xk1 xk2 xk3 xk4 := hw2
  obtain ⟨hw2a, hw2b, hw2c⟩ := sp_hold_ok hw2 (by omega) (by omega) XH
  have hw2d := sp_hold_okD hw2 (by omega) (by omega) XD
  obtain ⟨hw2v, hw2n⟩ := sp_hold_okVN hw2 (by omega) (by omega) ⟨XV, XN⟩
  refine lv_pop hx hb dL_law_404 rfl ?_
  have hPx : va_P D vwCl (wX ad rw sd cI cY cJ cQ (upd nx 3 hn_4) (upR (upR (upR (upR fx 3 ho_5) 4 hc_6) 5 hp_7) 6 hs_8) rs lo ++ wM md sd cI cY cJ cQ ny fy fl) H := hP
  have hDx : va_D (fun q : Nat => s.heap.size ≤ q) (wX ad rw sd cI cY cJ cQ (upd nx 3 hn_4) (upR (upR (upR (upR fx 3 ho_5) 4 hc_6) 5 hp_7) 6 hs_8) rs lo ++ wM md sd cI cY cJ cQ ny fy fl) := wXM_D hD
  have hP := hPx.comm
  have hD := hDx.comm
  refine lv_aload_n hx hb dL_law_405 rfl (lv_at hl 2 rfl) ?_
  refine law_arg (v := 1) hx hb hX hbl hbA hS (lv_at hl 0 rfl) (lv_at hl 3 rfl) (by decide) hak1 exk1 dL_law_406 dL_law_407 dL_law_408 dL_law_409 dL_law_410 ?_
  refine law_arg (v := 2) hx hb hX hbl hbA hS (lv_at hl 0 rfl) (lv_at hl 3 rfl) (by decide) hak2 exk2 dL_law_411 dL_law_412 dL_law_413 dL_law_414 dL_law_415 ?_
  refine law_arg (v := 3) hx hb hX hbl hbA hS (lv_at hl 0 rfl) (lv_at hl 3 rfl) (by decide) hak3 exk3 dL_law_416 dL_law_417 dL_law_418 dL_law_419 dL_law_420 ?_
  refine law_arg (v := 4) hx hb hX hbl hbA hS (lv_at hl 0 rfl) (lv_at hl 3 rfl) (by decide) hak4 exk4 dL_law_421 dL_law_422 dL_law_423 dL_law_424 dL_law_425 ?_
  refine st_iU (va_runV (C := RX11) (As := [.int xk1, .int xk2, .int xk3, .int xk4]) (rest := []) ⟨hx, hb, hml, hown, hts⟩ (ct_X11_hold l D cI cY cJ cQ _ md sd (ny 0) (ny 1) (ny 2) (ny 3) (ny 4) (ny 5) (ny 6) (ny 7) (ny 8) (ny 9) (ny 10) (ny 11) (ny 12) (ny 13) (ny 14) (ny 15) (ny 16) (ny 17) (ny 18) (ny 19) (ny 20) (ny 21) (ny 22) (fy 3) (fy 4) (fy 5) (fy 6) xk1 xk2 xk3 xk4 Mhna Mhnb) (cwV 4 hts gL_law_X11_hold rfl rfl rfl ⟨rfl, cdX11_hold⟩ ⟨Nat.le_of_ble_eq_true rfl, Nat.le_of_ble_eq_true rfl⟩) (cPreV (hP.sub [0, 4, 5, 6, 7] rfl) hK (hD.sub [0, 4, 5, 6, 7] (by decide +kernel) rfl) hN (ci := 11) (q0 := 0) rfl rfl) rfl rfl hl.1 rfl (lv_room (Nat.le_of_ble_eq_true rfl)) dL_law_426 ⟨Nat.le_of_ble_eq_true rfl, Nat.le_of_ble_eq_true rfl⟩) hP hD hS hA [0, 4, 5, 6, 7] rfl (fun _ => rfl) (fun r11 u9 H locs hw10 => ?_)
  clear hP hS
  intro hP hS
  obtain ⟨hn_12, ho_13, hc_14, hp_15, hs_16⟩ := u9
  replace hw10 : (r11, (hn_12, ho_13, hc_14, hp_15, hs_16)) = sp_hold (ny 2) (fy 3) (fy 4) (fy 5) (fy 6) xk1 xk2 xk3 xk4 := hw10
  obtain ⟨hw10a, hw10b, hw10c⟩ := sp_hold_ok hw10 (by omega) (by omega) MH
  rw [Chn, Cho, Chc, Chp, Chs] at hw10
  have e9 := hw2.trans hw10.symm
  simp only [Prod.mk.injEq] at e9
  obtain ⟨e90, e9hn, e9ho, e9hc, e9hp, e9hs⟩ := e9
  refine lv_pop hx hb dL_law_429 rfl ?_
  refine lv_goto (tgt := 1652) hx hb dL_law_430 (by decide) ?_
  have hPm : va_P D vwCl (wM md sd cI cY cJ cQ (upd (upd ny 0 0) 2 hn_12) (upR (upR (upR (upR fy 3 ho_13) 4 hc_14) 5 hp_15) 6 hs_16) fl ++ wX ad rw sd cI cY cJ cQ (upd nx 3 hn_4) (upR (upR (upR (upR fx 3 ho_5) 4 hc_6) 5 hp_7) 6 hs_8) rs lo) H := hP
  have hDm : va_D (fun q : Nat => s.heap.size ≤ q) (wM md sd cI cY cJ cQ (upd (upd ny 0 0) 2 hn_12) (upR (upR (upR (upR fy 3 ho_13) 4 hc_14) 5 hp_15) 6 hs_16) fl ++ wX ad rw sd cI cY cJ cQ (upd nx 3 hn_4) (upR (upR (upR (upR fx 3 ho_5) 4 hc_6) 5 hp_7) 6 hs_8) rs lo) := wMX_D hD
  exact kk (upd nx 3 hn_4) (upR (upR (upR (upR fx 3 ho_5) 4 hc_6) 5 hp_7) 6 hs_8) rs lo (upd (upd ny 0 0) 2 hn_12) (upR (upR (upR (upR fy 3 ho_13) 4 hc_14) 5 hp_15) 6 hs_16) fl H locs ls ⟨(by show 0 ≤ (hn_4).toInt; omega), (by show (hn_4).toInt ≤ 40; omega), (show okH (hn_4) (ho_5) (hc_6) by assumption), (show okD (hn_4) (hs_8) by assumption), (show okV (hn_4) (hp_7) by assumption), (show okN (hn_4) (ho_5) (hc_6) by assumption), Xcna, Xcnb, XF, Xpna, Xpnb, XG, XO, XW, Xgna, Xgnb, XJ, Xlna, Xlnb, Xdla, Xdlb, Xana, Xanb, Xuna, Xunb, XU, Xlca, Xlcb, Xtna, Xtnb, XS, (by show 0 ≤ (hn_12).toInt; omega), (by show (hn_12).toInt ≤ 40; omega), (show okH (hn_12) (ho_13) (hc_14) by assumption), MS, Mmlna, Mmlnb, Mmtna, Mmtnb, (show (hn_12) = (hn_4) from e9hn.symm), (show (ho_13) = (ho_5) from e9ho.symm), (show (hc_14) = (hc_6) from e9hc.symm), (show (hp_15) = (hp_7) from e9hp.symm), (show (hs_16) = (hs_8) from e9hs.symm), Ccn, Cfo, Cwo, Cpn, Cpk, Cpf, Cpo, Cpd, Cpe, Cgn, Cgk, Cgs, Cgd, Cge, Can, Cak, Cah, Cay, Caz, Cun, Cuk, Cuy, Cuw, Cum, Clc, Clp, Cla, Clb, Caw, Ciw, Cln, Ctd, Cro, Cmtn, Cmtr, Cmst, Csh⟩ hPm.comm hDm.comm hS hl

set_option maxHeartbeats 4000000 in
set_option maxRecDepth 100000 in
theorem law_case_5 {p : Program} {l : Launch} {e : Env} {s : State} {m : MethodId} {below : List Frame} {meth : Method} {c : Code} {D : va_G} {cI cY cJ cQ : ClassId} {b L aK aV : Nat} {xs : Nat → Int32} {ad rw md : Nat → Nat} {sd i : Int32} {nx : Nat → Int32} {fx rs : Nat → Nat → Int32} {lo : Nat → Int64} {ny : Nat → Int32} {fy : Nat → Nat → Int32} {fl : Nat → Int64} {H : Heap} {locs : List Loc} {ls : Array Slot} (C0 : lawC p s m meth c b L xs D cI cY cJ cQ aK aV) (I : inv nx fx rs ny fy) (hP : va_P D vwCl (wX ad rw sd cI cY cJ cQ nx fx rs lo ++ wM md sd cI cY cJ cQ ny fy fl) H) (hD : va_D (fun q : Nat => s.heap.size ≤ q) (wX ad rw sd cI cY cJ cQ nx fx rs lo ++ wM md sd cI cY cJ cQ ny fy fl)) (hS : va_S (fun q : Nat => s.heap.size ≤ q) s.heap H locs) (hl : lv_has ls 4 [(0, .ref b), (1, .ref (ad 0)), (2, .ref (md 64)), (3, .int i)]) (hi1 : 1 ≤ i.toInt) (hi2 : i.toInt + 5 < L) (kk : ∀ (nx : Nat → Int32) (fx rs : Nat → Nat → Int32) (lo : Nat → Int64) (ny : Nat → Int32) (fy : Nat → Nat → Int32) (fl : Nat → Int64) (H : Heap) (locs : List Loc) (ls : Array Slot), inv nx fx rs ny fy → va_P D vwCl (wX ad rw sd cI cY cJ cQ nx fx rs lo ++ wM md sd cI cY cJ cQ ny fy fl) H → va_D (fun q : Nat => s.heap.size ≤ q) (wX ad rw sd cI cY cJ cQ nx fx rs lo ++ wM md sd cI cY cJ cQ ny fy fl) → va_S (fun q : Nat => s.heap.size ≤ q) s.heap H locs → lv_has ls 4 [(0, .ref b), (1, .ref (ad 0)), (2, .ref (md 64)), (3, .int i)] → W p l e room_1 s m #[Value.ref b] below meth c H locs 107 4890 (lw_Z below #[Value.ref b] s) (F0 m 1652 ls [])) : W p l e room_1 s m #[Value.ref b] below meth c H locs 107 4890 (lw_Z below #[Value.ref b] s) (F0 m 433 ls []) := by
  obtain ⟨C1, hK, hN, hT, hL⟩ := C0
  obtain ⟨hx, hb, hr, hml, hown, hts0, hX, hbl, hlocks, hgv⟩ := C1
  have hA : ∀ q : Nat, s.heap.size ≤ q → (fun q : Nat => s.heap.size ≤ q) q := fun _ h => h
  have hbA : ¬ (fun q : Nat => s.heap.size ≤ q) b := Nat.not_le.mpr hbl
  have hts : ∀ w ∈ wsL_law, w.before #[Value.ref b] s = true := fun w h => hts0 w (wsL_law_in w h)
  replace hown : s.vm.findClass RL = some m.cls := hown
  replace hb : c.code = cL_law := hb
  have hak1 : vp_in (i + 1) L := law_in hi1 hi2 hL (by decide)
  obtain ⟨xk1, exk1⟩ : ∃ y : Int32, y = xs (i + 1).toNatClampNeg := ⟨_, rfl⟩
  have hak2 : vp_in (i + 2) L := law_in hi1 hi2 hL (by decide)
  obtain ⟨xk2, exk2⟩ : ∃ y : Int32, y = xs (i + 2).toNatClampNeg := ⟨_, rfl⟩
  have hak3 : vp_in (i + 3) L := law_in hi1 hi2 hL (by decide)
  obtain ⟨xk3, exk3⟩ : ∃ y : Int32, y = xs (i + 3).toNatClampNeg := ⟨_, rfl⟩
  refine inv_el I ?_
  intro Xhna Xhnb XH XD XV XN Xcna Xcnb XF Xpna Xpnb XG XO XW Xgna Xgnb XJ Xlna Xlnb Xdla Xdlb Xana Xanb Xuna Xunb XU Xlca Xlcb Xtna Xtnb XS Mhna Mhnb MH MS Mmlna Mmlnb Mmtna Mmtnb Chn Cho Chc Chp Chs Ccn Cfo Cwo Cpn Cpk Cpf Cpo Cpd Cpe Cgn Cgk Cgs Cgd Cge Can Cak Cah Cay Caz Cun Cuk Cuy Cuw Cum Clc Clp Cla Clb Caw Ciw Cln Ctd Cro Cmtn Cmtr Cmst Csh
  have Tcn := i_eq Ccn
  have Tpn := i_eq Cpn
  have Tgn := i_eq Cgn
  have Tan := i_eq Can
  have Tun := i_eq Cun
  have Tlc := i_eq Clc
  have Tln := i_eq Cln
  refine lv_aload_n hx hb dL_law_433 rfl (lv_at hl 1 rfl) ?_
  refine law_arg (v := 1) hx hb hX hbl hbA hS (lv_at hl 0 rfl) (lv_at hl 3 rfl) (by decide) hak1 exk1 dL_law_434 dL_law_435 dL_law_436 dL_law_437 dL_law_438 ?_
  refine law_arg (v := 2) hx hb hX hbl hbA hS (lv_at hl 0 rfl) (lv_at hl 3 rfl) (by decide) hak2 exk2 dL_law_439 dL_law_440 dL_law_441 dL_law_442 dL_law_443 ?_
  refine law_arg (v := 3) hx hb hX hbl hbA hS (lv_at hl 0 rfl) (lv_at hl 3 rfl) (by decide) hak3 exk3 dL_law_444 dL_law_445 dL_law_446 dL_law_447 dL_law_448 ?_
  refine st_iQ (wr := [(aI cI (ad 11) 16 (fx 0)), (aI cI (ad 27) 200 (fx 7)), (aI cI (ad 28) 200 (fx 8)), (aI cI (ad 29) 20 (fx 9)), (aI cI (ad 30) 10 (fx 10)), (oC1 ad (nx 4)), (aI cI (ad 31) 12 (fx 11)), (aI cI (ad 32) 12 (fx 12)), (aI cI (ad 33) 12 (fx 13)), (aI cI (ad 34) 6 (fx 14)), (aI cI (ad 35) 6 (fx 15)), (oC7 ad (nx 5)), (aI cI (ad 36) 40 (fx 16)), (aI cI (ad 37) 40 (fx 17)), (aI cI (ad 38) 40 (fx 18)), (aI cI (ad 39) 40 (fx 19)), (aI cI (ad 40) 40 (fx 20)), (aI cI (ad 41) 40 (fx 21)), (oC8 ad (nx 6)), (aI cI (ad 42) 40 (fx 22)), (aI cI (ad 43) 40 (fx 23)), (aI cI (ad 44) 40 (fx 24)), (aI cI (ad 45) 40 (fx 25)), (aI cI (ad 46) 40 (fx 26)), (oC2 ad (nx 7) (nx 8) (nx 9) (nx 10) (nx 11) (nx 12) (nx 13) (nx 14)), (aI cY (ad 47) 300 (fx 27)), (aI cI (ad 48) 12 (fx 28)), (aI cI (ad 49) 12 (fx 29)), (aI cI (ad 50) 12 (fx 30)), (aI cI (ad 51) 12 (fx 31)), (aI cI (ad 52) 12 (fx 32)), (aI cI (ad 53) 12 (fx 33)), (oC0 ad (nx 15)), (aI cI (ad 54) 60 (fx 34)), (aI cI (ad 55) 60 (fx 35)), (aI cI (ad 56) 60 (fx 36)), (aI cI (ad 57) 60 (fx 37)), (oC5 ad sd), (aJ cJ (ad 58) 12 lo), (oC6 ad (nx 16)), (aI cI (ad 59) 60 (fx 38)), (aI cI (ad 60) 60 (fx 39)), (aI cI (ad 61) 60 (fx 40)), (aI cI (ad 62) 60 (fx 41)), (oC4 ad (nx 17)), (aI cI (ad 63) 20 (fx 42)), (aI cI (ad 64) 20 (fx 43)), (aI cI (ad 65) 20 (fx 44))]) (va_runV (C := RX10) (As := [.int xk1, .int xk2, .int xk3]) (rest := []) ⟨hx, hb, hml, hown, hts⟩ (ct_X10_holds l D cI cY cJ cQ _ ad rw rs (nx 0) (nx 1) (nx 2) (nx 3) (fx 1) (fx 2) (fx 3) (fx 4) (fx 5) (fx 6) xk1 xk2 xk3 Xhna Xhnb XH XS) (cwV 3 hts gL_law_X10_holds rfl rfl rfl ⟨rfl, cdX10_holds⟩ ⟨Nat.le_of_ble_eq_true rfl, Nat.le_of_ble_eq_true rfl⟩) (cPreV (hP.sub [2, 3, 4, 5, 6, 7, 8, 9, 0, 10, 11, 12, 13, 14, 15, 16, 17, 18] rfl) hK (hD.sub [2, 3, 4, 5, 6, 7, 8, 9, 0, 10, 11, 12, 13, 14, 15, 16, 17, 18] (by decide +kernel) rfl) hN (ci := 10) (q0 := 8) rfl rfl) rfl rfl hl.1 rfl (lv_room (Nat.le_of_ble_eq_true rfl)) dL_law_449 ⟨Nat.le_of_ble_eq_true rfl, Nat.le_of_ble_eq_true rfl⟩) hP hD hS hA [2, 3, 4, 5, 6, 7, 8, 9, 0, 10, 11, 12, 13, 14, 15, 16, 17, 18] [1, 19, 20, 21, 22, 23, 24, 25, 26, 27, 28, 29, 30, 31, 32, 33, 34, 35, 36, 37, 38, 39, 40, 41, 42, 43, 44, 45, 46, 47, 48, 49, 50, 51, 52, 53, 54, 55, 56, 57, 58, 59, 60, 61, 62, 63, 64, 65] rfl rfl (by decide +kernel) (by decide +kernel) (fun r3 u1 H locs hw2 => ?_)
  clear hP hS
  intro hP _ hS
  obtain ⟨lf_4, hn_5, ho_6, hc_7, hp_8, hs_9⟩ := u1
  replace hw2 : (r3, (lf_4, hn_5, ho_6, hc_7, hp_8, hs_9)) = sp_holds (nx 2) rs (fx 2) (nx 3) (fx 3) (fx 4) (fx 5) (fx 6) xk1 xk2 xk3 ∧ 0 ≤ hn_5.toInt ∧ hn_5.toInt ≤ 40 ∧ okH hn_5 ho_6 hc_7 := hw2
  obtain ⟨hw2, hw2a, hw2b, hw2c⟩ := hw2
  have hw2d := sp_holds_okD hw2 (by omega) (by omega) XH XD
  obtain ⟨hw2v, hw2n⟩ := sp_holds_okVN hw2 (by omega) (by omega) XH XD ⟨XV, XN⟩
  refine lv_pop hx hb dL_law_452 rfl ?_
  have hPx : va_P D vwCl (wX ad rw sd cI cY cJ cQ (upd (upd nx 2 lf_4) 3 hn_5) (upR (upR (upR (upR fx 3 ho_6) 4 hc_7) 5 hp_8) 6 hs_9) rs lo ++ wM md sd cI cY cJ cQ ny fy fl) H := hP.part [56, 0, 48, 49, 50, 51, 52, 53, 54, 55, 57, 58, 59, 60, 61, 62, 63, 64, 65, 1, 2, 3, 4, 5, 6, 7, 8, 9, 10, 11, 12, 13, 14, 15, 16, 17, 18, 19, 20, 21, 22, 23, 24, 25, 26, 27, 28, 29, 30, 31, 32, 33, 34, 35, 36, 37, 38, 39, 40, 41, 42, 43, 44, 45, 46, 47] rfl
  have hDx : va_D (fun q : Nat => s.heap.size ≤ q) (wX ad rw sd cI cY cJ cQ (upd (upd nx 2 lf_4) 3 hn_5) (upR (upR (upR (upR fx 3 ho_6) 4 hc_7) 5 hp_8) 6 hs_9) rs lo ++ wM md sd cI cY cJ cQ ny fy fl) := wXM_D hD
  have hP := hPx.comm
  have hD := hDx.comm
  refine lv_aload_n hx hb dL_law_453 rfl (lv_at hl 2 rfl) ?_
  refine law_arg (v := 1) hx hb hX hbl hbA hS (lv_at hl 0 rfl) (lv_at hl 3 rfl) (by decide) hak1 exk1 dL_law_454 dL_law_455 dL_law_456 dL_law_457 dL_law_458 ?_
  refine law_arg (v := 2) hx hb hX hbl hbA hS (lv_at hl 0 rfl) (lv_at hl 3 rfl) (by decide) hak2 exk2 dL_law_459 dL_law_460 dL_law_461 dL_law_462 dL_law_463 ?_
  refine law_arg (v := 3) hx hb hX hbl hbA hS (lv_at hl 0 rfl) (lv_at hl 3 rfl) (by decide) hak3 exk3 dL_law_464 dL_law_465 dL_law_466 dL_law_467 dL_law_468 ?_
  refine st_iU (va_runV (C := RX11) (As := [.int xk1, .int xk2, .int xk3]) (rest := []) ⟨hx, hb, hml, hown, hts⟩ (ct_X11_holds l D cI cY cJ cQ _ md sd (ny 0) (ny 1) (ny 2) (ny 3) (ny 4) (ny 5) (ny 6) (ny 7) (ny 8) (ny 9) (ny 10) (ny 11) (ny 12) (ny 13) (ny 14) (ny 15) (ny 16) (ny 17) (ny 18) (ny 19) (ny 20) (ny 21) (ny 22) (fy 0) (fy 1) (fy 2) (fy 3) (fy 4) (fy 5) (fy 6) xk1 xk2 xk3 MS Mhna Mhnb MH) (cwV 3 hts gL_law_X11_holds rfl rfl rfl ⟨rfl, cdX11_holds⟩ ⟨Nat.le_of_ble_eq_true rfl, Nat.le_of_ble_eq_true rfl⟩) (cPreV (hP.sub [0, 1, 2, 3, 4, 5, 6, 7] rfl) hK (hD.sub [0, 1, 2, 3, 4, 5, 6, 7] (by decide +kernel) rfl) hN (ci := 11) (q0 := 0) rfl rfl) rfl rfl hl.1 rfl (lv_room (Nat.le_of_ble_eq_true rfl)) dL_law_469 ⟨Nat.le_of_ble_eq_true rfl, Nat.le_of_ble_eq_true rfl⟩) hP hD hS hA [0, 1, 2, 3, 4, 5, 6, 7] rfl (fun _ => rfl) (fun r12 u10 H locs hw11 => ?_)
  clear hP hS
  intro hP hS
  obtain ⟨mst_13, hn_14, ho_15, hc_16, hp_17, hs_18⟩ := u10
  replace hw11 : (r12, (mst_13, hn_14, ho_15, hc_16, hp_17, hs_18)) = sm_holds (ny 1) (fy 0) (fy 1) (fy 2) (ny 2) (fy 3) (fy 4) (fy 5) (fy 6) xk1 xk2 xk3 ∧ 0 ≤ hn_14.toInt ∧ hn_14.toInt ≤ 40 ∧ okH hn_14 ho_15 hc_16 := hw11
  obtain ⟨hw11, hw11a, hw11b, hw11c⟩ := hw11
  rw [Chn, Cho, Chc, Chp, Chs] at hw11
  obtain ⟨e90, e9hn, e9ho, e9hc, e9hp, e9hs, e9st⟩ := shR_holds Csh MS hw2 hw11
  refine lv_pop hx hb dL_law_472 rfl ?_
  refine lv_goto (tgt := 1652) hx hb dL_law_473 (by decide) ?_
  have hPm : va_P D vwCl (wM md sd cI cY cJ cQ (upd (upd (upd ny 0 0) 1 mst_13) 2 hn_14) (upR (upR (upR (upR fy 3 ho_15) 4 hc_16) 5 hp_17) 6 hs_18) fl ++ wX ad rw sd cI cY cJ cQ (upd (upd nx 2 lf_4) 3 hn_5) (upR (upR (upR (upR fx 3 ho_6) 4 hc_7) 5 hp_8) 6 hs_9) rs lo) H := hP
  have hDm : va_D (fun q : Nat => s.heap.size ≤ q) (wM md sd cI cY cJ cQ (upd (upd (upd ny 0 0) 1 mst_13) 2 hn_14) (upR (upR (upR (upR fy 3 ho_15) 4 hc_16) 5 hp_17) 6 hs_18) fl ++ wX ad rw sd cI cY cJ cQ (upd (upd nx 2 lf_4) 3 hn_5) (upR (upR (upR (upR fx 3 ho_6) 4 hc_7) 5 hp_8) 6 hs_9) rs lo) := wMX_D hD
  exact kk (upd (upd nx 2 lf_4) 3 hn_5) (upR (upR (upR (upR fx 3 ho_6) 4 hc_7) 5 hp_8) 6 hs_9) rs lo (upd (upd (upd ny 0 0) 1 mst_13) 2 hn_14) (upR (upR (upR (upR fy 3 ho_15) 4 hc_16) 5 hp_17) 6 hs_18) fl H locs ls ⟨(by show 0 ≤ (hn_5).toInt; omega), (by show (hn_5).toInt ≤ 40; omega), (show okH (hn_5) (ho_6) (hc_7) by assumption), (show okD (hn_5) (hs_9) by assumption), (show okV (hn_5) (hp_8) by assumption), (show okN (hn_5) (ho_6) (hc_7) by assumption), Xcna, Xcnb, XF, Xpna, Xpnb, XG, XO, XW, Xgna, Xgnb, XJ, Xlna, Xlnb, Xdla, Xdlb, Xana, Xanb, Xuna, Xunb, XU, Xlca, Xlcb, Xtna, Xtnb, XS, (by show 0 ≤ (hn_14).toInt; omega), (by show (hn_14).toInt ≤ 40; omega), (show okH (hn_14) (ho_15) (hc_16) by assumption), MS, Mmlna, Mmlnb, Mmtna, Mmtnb, (show (hn_14) = (hn_5) from e9hn), (show (ho_15) = (ho_6) from e9ho), (show (hc_16) = (hc_7) from e9hc), (show (hp_17) = (hp_8) from e9hp), (show (hs_18) = (hs_9) from e9hs), Ccn, Cfo, Cwo, Cpn, Cpk, Cpf, Cpo, Cpd, Cpe, Cgn, Cgk, Cgs, Cgd, Cge, Can, Cak, Cah, Cay, Caz, Cun, Cuk, Cuy, Cuw, Cum, Clc, Clp, Cla, Clb, Caw, Ciw, Cln, Ctd, Cro, Cmtn, Cmtr, (show (mst_13) = (lf_4) from e9st Cmst), Csh⟩ hPm.comm hDm.comm hS hl

set_option maxHeartbeats 4000000 in
set_option maxRecDepth 100000 in
theorem law_case_6 {p : Program} {l : Launch} {e : Env} {s : State} {m : MethodId} {below : List Frame} {meth : Method} {c : Code} {D : va_G} {cI cY cJ cQ : ClassId} {b L aK aV : Nat} {xs : Nat → Int32} {ad rw md : Nat → Nat} {sd i : Int32} {nx : Nat → Int32} {fx rs : Nat → Nat → Int32} {lo : Nat → Int64} {ny : Nat → Int32} {fy : Nat → Nat → Int32} {fl : Nat → Int64} {H : Heap} {locs : List Loc} {ls : Array Slot} (C0 : lawC p s m meth c b L xs D cI cY cJ cQ aK aV) (I : inv nx fx rs ny fy) (hP : va_P D vwCl (wX ad rw sd cI cY cJ cQ nx fx rs lo ++ wM md sd cI cY cJ cQ ny fy fl) H) (hD : va_D (fun q : Nat => s.heap.size ≤ q) (wX ad rw sd cI cY cJ cQ nx fx rs lo ++ wM md sd cI cY cJ cQ ny fy fl)) (hS : va_S (fun q : Nat => s.heap.size ≤ q) s.heap H locs) (hl : lv_has ls 4 [(0, .ref b), (1, .ref (ad 0)), (2, .ref (md 64)), (3, .int i)]) (hi1 : 1 ≤ i.toInt) (hi2 : i.toInt + 5 < L) (kk : ∀ (nx : Nat → Int32) (fx rs : Nat → Nat → Int32) (lo : Nat → Int64) (ny : Nat → Int32) (fy : Nat → Nat → Int32) (fl : Nat → Int64) (H : Heap) (locs : List Loc) (ls : Array Slot), inv nx fx rs ny fy → va_P D vwCl (wX ad rw sd cI cY cJ cQ nx fx rs lo ++ wM md sd cI cY cJ cQ ny fy fl) H → va_D (fun q : Nat => s.heap.size ≤ q) (wX ad rw sd cI cY cJ cQ nx fx rs lo ++ wM md sd cI cY cJ cQ ny fy fl) → va_S (fun q : Nat => s.heap.size ≤ q) s.heap H locs → lv_has ls 4 [(0, .ref b), (1, .ref (ad 0)), (2, .ref (md 64)), (3, .int i)] → W p l e room_1 s m #[Value.ref b] below meth c H locs 107 4890 (lw_Z below #[Value.ref b] s) (F0 m 1652 ls [])) : W p l e room_1 s m #[Value.ref b] below meth c H locs 107 4890 (lw_Z below #[Value.ref b] s) (F0 m 476 ls []) := by
  obtain ⟨C1, hK, hN, hT, hL⟩ := C0
  obtain ⟨hx, hb, hr, hml, hown, hts0, hX, hbl, hlocks, hgv⟩ := C1
  have hA : ∀ q : Nat, s.heap.size ≤ q → (fun q : Nat => s.heap.size ≤ q) q := fun _ h => h
  have hbA : ¬ (fun q : Nat => s.heap.size ≤ q) b := Nat.not_le.mpr hbl
  have hts : ∀ w ∈ wsL_law, w.before #[Value.ref b] s = true := fun w h => hts0 w (wsL_law_in w h)
  replace hown : s.vm.findClass RL = some m.cls := hown
  replace hb : c.code = cL_law := hb
  have hak1 : vp_in (i + 1) L := law_in hi1 hi2 hL (by decide)
  obtain ⟨xk1, exk1⟩ : ∃ y : Int32, y = xs (i + 1).toNatClampNeg := ⟨_, rfl⟩
  have hak2 : vp_in (i + 2) L := law_in hi1 hi2 hL (by decide)
  obtain ⟨xk2, exk2⟩ : ∃ y : Int32, y = xs (i + 2).toNatClampNeg := ⟨_, rfl⟩
  have hak3 : vp_in (i + 3) L := law_in hi1 hi2 hL (by decide)
  obtain ⟨xk3, exk3⟩ : ∃ y : Int32, y = xs (i + 3).toNatClampNeg := ⟨_, rfl⟩
  refine inv_el I ?_
  intro Xhna Xhnb XH XD XV XN Xcna Xcnb XF Xpna Xpnb XG XO XW Xgna Xgnb XJ Xlna Xlnb Xdla Xdlb Xana Xanb Xuna Xunb XU Xlca Xlcb Xtna Xtnb XS Mhna Mhnb MH MS Mmlna Mmlnb Mmtna Mmtnb Chn Cho Chc Chp Chs Ccn Cfo Cwo Cpn Cpk Cpf Cpo Cpd Cpe Cgn Cgk Cgs Cgd Cge Can Cak Cah Cay Caz Cun Cuk Cuy Cuw Cum Clc Clp Cla Clb Caw Ciw Cln Ctd Cro Cmtn Cmtr Cmst Csh
  have Tcn := i_eq Ccn
  have Tpn := i_eq Cpn
  have Tgn := i_eq Cgn
  have Tan := i_eq Can
  have Tun := i_eq Cun
  have Tlc := i_eq Clc
  have Tln := i_eq Cln
  refine lv_aload_n hx hb dL_law_476 rfl (lv_at hl 1 rfl) ?_
  refine law_arg (v := 1) hx hb hX hbl hbA hS (lv_at hl 0 rfl) (lv_at hl 3 rfl) (by decide) hak1 exk1 dL_law_477 dL_law_478 dL_law_479 dL_law_480 dL_law_481 ?_
  refine law_arg (v := 2) hx hb hX hbl hbA hS (lv_at hl 0 rfl) (lv_at hl 3 rfl) (by decide) hak2 exk2 dL_law_482 dL_law_483 dL_law_484 dL_law_485 dL_law_486 ?_
  refine law_arg (v := 3) hx hb hX hbl hbA hS (lv_at hl 0 rfl) (lv_at hl 3 rfl) (by decide) hak3 exk3 dL_law_487 dL_law_488 dL_law_489 dL_law_490 dL_law_491 ?_
  refine st_iU (va_runV (C := RX10) (As := [.int xk1, .int xk2, .int xk3]) (rest := []) ⟨hx, hb, hml, hown, hts⟩ (ct_X10_percent l D cI cY cJ cQ _ ad (nx 0) (nx 1) (nx 2) (nx 3) (fx 3) (fx 4) (fx 5) (fx 6) (fx 7) (fx 8) (fx 9) (fx 10) xk1 xk2 xk3 Xhna Xhnb XH XV) (cwV 3 hts gL_law_X10_percent rfl rfl rfl ⟨rfl, cdX10_percent⟩ ⟨Nat.le_of_ble_eq_true rfl, Nat.le_of_ble_eq_true rfl⟩) (cPreV (hP.sub [0, 14, 15, 16, 17, 18, 19, 20, 21, 22] rfl) hK (hD.sub [0, 14, 15, 16, 17, 18, 19, 20, 21, 22] (by decide +kernel) rfl) hN (ci := 10) (q0 := 0) rfl rfl) rfl rfl hl.1 rfl (lv_room (Nat.le_of_ble_eq_true rfl)) dL_law_492 ⟨Nat.le_of_ble_eq_true rfl, Nat.le_of_ble_eq_true rfl⟩) hP hD hS hA [0, 14, 15, 16, 17, 18, 19, 20, 21, 22] rfl (fun _ => rfl) (fun r3 u1 H locs hw2 => ?_)
  clear hP hS
  intro hP hS
  obtain ⟨pt_4, ps_5, ha_6, re_7⟩ := u1
  replace hw2 : r3 = sp_percent (nx 3) (fx 3) (fx 4) (fx 5) (fx 6) xk1 xk2 xk3 := hw2
  refine lv_pop hx hb dL_law_495 rfl ?_
  have hPx : va_P D vwCl (wX ad rw sd cI cY cJ cQ nx (upR (upR (upR (upR fx 7 pt_4) 8 ps_5) 9 ha_6) 10 re_7) rs lo ++ wM md sd cI cY cJ cQ ny fy fl) H := hP
  have hDx : va_D (fun q : Nat => s.heap.size ≤ q) (wX ad rw sd cI cY cJ cQ nx (upR (upR (upR (upR fx 7 pt_4) 8 ps_5) 9 ha_6) 10 re_7) rs lo ++ wM md sd cI cY cJ cQ ny fy fl) := wXM_D hD
  have hP := hPx.comm
  have hD := hDx.comm
  refine lv_aload_n hx hb dL_law_496 rfl (lv_at hl 2 rfl) ?_
  refine law_arg (v := 1) hx hb hX hbl hbA hS (lv_at hl 0 rfl) (lv_at hl 3 rfl) (by decide) hak1 exk1 dL_law_497 dL_law_498 dL_law_499 dL_law_500 dL_law_501 ?_
  refine law_arg (v := 2) hx hb hX hbl hbA hS (lv_at hl 0 rfl) (lv_at hl 3 rfl) (by decide) hak2 exk2 dL_law_502 dL_law_503 dL_law_504 dL_law_505 dL_law_506 ?_
  refine law_arg (v := 3) hx hb hX hbl hbA hS (lv_at hl 0 rfl) (lv_at hl 3 rfl) (by decide) hak3 exk3 dL_law_507 dL_law_508 dL_law_509 dL_law_510 dL_law_511 ?_
  refine st_iU (va_runV (C := RX11) (As := [.int xk1, .int xk2, .int xk3]) (rest := []) ⟨hx, hb, hml, hown, hts⟩ (ct_X11_percent l D cI cY cJ cQ _ md sd (ny 0) (ny 1) (ny 2) (ny 3) (ny 4) (ny 5) (ny 6) (ny 7) (ny 8) (ny 9) (ny 10) (ny 11) (ny 12) (ny 13) (ny 14) (ny 15) (ny 16) (ny 17) (ny 18) (ny 19) (ny 20) (ny 21) (ny 22) (fy 3) (fy 4) (fy 5) (fy 6) xk1 xk2 xk3 Mhna Mhnb) (cwV 3 hts gL_law_X11_percent rfl rfl rfl ⟨rfl, cdX11_percent⟩ ⟨Nat.le_of_ble_eq_true rfl, Nat.le_of_ble_eq_true rfl⟩) (cPreV (hP.sub [0, 4, 5, 6, 7] rfl) hK (hD.sub [0, 4, 5, 6, 7] (by decide +kernel) rfl) hN (ci := 11) (q0 := 0) rfl rfl) rfl rfl hl.1 rfl (lv_room (Nat.le_of_ble_eq_true rfl)) dL_law_512 ⟨Nat.le_of_ble_eq_true rfl, Nat.le_of_ble_eq_true rfl⟩) hP hD hS hA [0, 4, 5, 6, 7] rfl (fun _ => rfl) (fun r10 u8 H locs hw9 => ?_)
  clear hP hS
  intro hP hS
  replace hw9 : r10 = sm_percent (ny 2) (fy 3) (fy 4) (fy 5) (fy 6) xk1 xk2 xk3 := hw9
  rw [Chn, Cho, Chc, Chp, Chs, ← percent_eq (by omega) (by omega) XD] at hw9
  have e90 := hw2.trans hw9.symm
  refine lv_pop hx hb dL_law_515 rfl ?_
  refine lv_goto (tgt := 1652) hx hb dL_law_516 (by decide) ?_
  have hPm : va_P D vwCl (wM md sd cI cY cJ cQ (upd ny 0 0) fy fl ++ wX ad rw sd cI cY cJ cQ nx (upR (upR (upR (upR fx 7 pt_4) 8 ps_5) 9 ha_6) 10 re_7) rs lo) H := hP
  have hDm : va_D (fun q : Nat => s.heap.size ≤ q) (wM md sd cI cY cJ cQ (upd ny 0 0) fy fl ++ wX ad rw sd cI cY cJ cQ nx (upR (upR (upR (upR fx 7 pt_4) 8 ps_5) 9 ha_6) 10 re_7) rs lo) := wMX_D hD
  exact kk nx (upR (upR (upR (upR fx 7 pt_4) 8 ps_5) 9 ha_6) 10 re_7) rs lo (upd ny 0 0) fy fl H locs ls ⟨Xhna, Xhnb, XH, XD, XV, XN, Xcna, Xcnb, XF, Xpna, Xpnb, XG, XO, XW, Xgna, Xgnb, XJ, Xlna, Xlnb, Xdla, Xdlb, Xana, Xanb, Xuna, Xunb, XU, Xlca, Xlcb, Xtna, Xtnb, XS, Mhna, Mhnb, MH, MS, Mmlna, Mmlnb, Mmtna, Mmtnb, Chn, Cho, Chc, Chp, Chs, Ccn, Cfo, Cwo, Cpn, Cpk, Cpf, Cpo, Cpd, Cpe, Cgn, Cgk, Cgs, Cgd, Cge, Can, Cak, Cah, Cay, Caz, Cun, Cuk, Cuy, Cuw, Cum, Clc, Clp, Cla, Clb, Caw, Ciw, Cln, Ctd, Cro, Cmtn, Cmtr, Cmst, Csh⟩ hPm.comm hDm.comm hS hl

set_option maxHeartbeats 4000000 in
set_option maxRecDepth 100000 in
theorem law_case_7 {p : Program} {l : Launch} {e : Env} {s : State} {m : MethodId} {below : List Frame} {meth : Method} {c : Code} {D : va_G} {cI cY cJ cQ : ClassId} {b L aK aV : Nat} {xs : Nat → Int32} {ad rw md : Nat → Nat} {sd i : Int32} {nx : Nat → Int32} {fx rs : Nat → Nat → Int32} {lo : Nat → Int64} {ny : Nat → Int32} {fy : Nat → Nat → Int32} {fl : Nat → Int64} {H : Heap} {locs : List Loc} {ls : Array Slot} (C0 : lawC p s m meth c b L xs D cI cY cJ cQ aK aV) (I : inv nx fx rs ny fy) (hP : va_P D vwCl (wX ad rw sd cI cY cJ cQ nx fx rs lo ++ wM md sd cI cY cJ cQ ny fy fl) H) (hD : va_D (fun q : Nat => s.heap.size ≤ q) (wX ad rw sd cI cY cJ cQ nx fx rs lo ++ wM md sd cI cY cJ cQ ny fy fl)) (hS : va_S (fun q : Nat => s.heap.size ≤ q) s.heap H locs) (hl : lv_has ls 4 [(0, .ref b), (1, .ref (ad 0)), (2, .ref (md 64)), (3, .int i)]) (hi1 : 1 ≤ i.toInt) (hi2 : i.toInt + 5 < L) (kk : ∀ (nx : Nat → Int32) (fx rs : Nat → Nat → Int32) (lo : Nat → Int64) (ny : Nat → Int32) (fy : Nat → Nat → Int32) (fl : Nat → Int64) (H : Heap) (locs : List Loc) (ls : Array Slot), inv nx fx rs ny fy → va_P D vwCl (wX ad rw sd cI cY cJ cQ nx fx rs lo ++ wM md sd cI cY cJ cQ ny fy fl) H → va_D (fun q : Nat => s.heap.size ≤ q) (wX ad rw sd cI cY cJ cQ nx fx rs lo ++ wM md sd cI cY cJ cQ ny fy fl) → va_S (fun q : Nat => s.heap.size ≤ q) s.heap H locs → lv_has ls 4 [(0, .ref b), (1, .ref (ad 0)), (2, .ref (md 64)), (3, .int i)] → W p l e room_1 s m #[Value.ref b] below meth c H locs 107 4890 (lw_Z below #[Value.ref b] s) (F0 m 1652 ls [])) : W p l e room_1 s m #[Value.ref b] below meth c H locs 107 4890 (lw_Z below #[Value.ref b] s) (F0 m 519 ls []) := by
  obtain ⟨C1, hK, hN, hT, hL⟩ := C0
  obtain ⟨hx, hb, hr, hml, hown, hts0, hX, hbl, hlocks, hgv⟩ := C1
  have hA : ∀ q : Nat, s.heap.size ≤ q → (fun q : Nat => s.heap.size ≤ q) q := fun _ h => h
  have hbA : ¬ (fun q : Nat => s.heap.size ≤ q) b := Nat.not_le.mpr hbl
  have hts : ∀ w ∈ wsL_law, w.before #[Value.ref b] s = true := fun w h => hts0 w (wsL_law_in w h)
  replace hown : s.vm.findClass RL = some m.cls := hown
  replace hb : c.code = cL_law := hb
  have hak1 : vp_in (i + 1) L := law_in hi1 hi2 hL (by decide)
  obtain ⟨xk1, exk1⟩ : ∃ y : Int32, y = xs (i + 1).toNatClampNeg := ⟨_, rfl⟩
  have hak2 : vp_in (i + 2) L := law_in hi1 hi2 hL (by decide)
  obtain ⟨xk2, exk2⟩ : ∃ y : Int32, y = xs (i + 2).toNatClampNeg := ⟨_, rfl⟩
  have hak3 : vp_in (i + 3) L := law_in hi1 hi2 hL (by decide)
  obtain ⟨xk3, exk3⟩ : ∃ y : Int32, y = xs (i + 3).toNatClampNeg := ⟨_, rfl⟩
  refine inv_el I ?_
  intro Xhna Xhnb XH XD XV XN Xcna Xcnb XF Xpna Xpnb XG XO XW Xgna Xgnb XJ Xlna Xlnb Xdla Xdlb Xana Xanb Xuna Xunb XU Xlca Xlcb Xtna Xtnb XS Mhna Mhnb MH MS Mmlna Mmlnb Mmtna Mmtnb Chn Cho Chc Chp Chs Ccn Cfo Cwo Cpn Cpk Cpf Cpo Cpd Cpe Cgn Cgk Cgs Cgd Cge Can Cak Cah Cay Caz Cun Cuk Cuy Cuw Cum Clc Clp Cla Clb Caw Ciw Cln Ctd Cro Cmtn Cmtr Cmst Csh
  have Tcn := i_eq Ccn
  have Tpn := i_eq Cpn
  have Tgn := i_eq Cgn
  have Tan := i_eq Can
  have Tun := i_eq Cun
  have Tlc := i_eq Clc
  have Tln := i_eq Cln
  have Thn := i_eq Chn
  have MXV : okV (ny 2) (fy 5) := by rw [Chn, Chp]; exact XV
  have MXF : okF (ny 3) (fy 10) := by rw [Ccn, Cfo]; exact XF
  have MXG : okG (ny 4) (fy 14) := by rw [Cpn, Cpo]; exact XG
  refine lv_aload_n hx hb dL_law_519 rfl (lv_at hl 1 rfl) ?_
  refine law_arg (v := 1) hx hb hX hbl hbA hS (lv_at hl 0 rfl) (lv_at hl 3 rfl) (by decide) hak1 exk1 dL_law_520 dL_law_521 dL_law_522 dL_law_523 dL_law_524 ?_
  refine law_arg (v := 2) hx hb hX hbl hbA hS (lv_at hl 0 rfl) (lv_at hl 3 rfl) (by decide) hak2 exk2 dL_law_525 dL_law_526 dL_law_527 dL_law_528 dL_law_529 ?_
  refine law_arg (v := 3) hx hb hX hbl hbA hS (lv_at hl 0 rfl) (lv_at hl 3 rfl) (by decide) hak3 exk3 dL_law_530 dL_law_531 dL_law_532 dL_law_533 dL_law_534 ?_
  refine st_iU (va_runV (C := RX10) (As := [.int xk1, .int xk2, .int xk3]) (rest := []) ⟨hx, hb, hml, hown, hts⟩ (ct_X10_share l D cI cY cJ cQ _ ad (nx 0) (nx 1) (nx 2) (nx 3) (fx 3) (fx 4) (fx 5) (fx 6) (fx 7) (fx 8) (fx 9) (fx 10) xk1 xk2 xk3 Xhna Xhnb XH XV) (cwV 3 hts gL_law_X10_share rfl rfl rfl ⟨rfl, cdX10_share⟩ ⟨Nat.le_of_ble_eq_true rfl, Nat.le_of_ble_eq_true rfl⟩) (cPreV (hP.sub [0, 14, 15, 16, 17, 18, 19, 20, 21, 22] rfl) hK (hD.sub [0, 14, 15, 16, 17, 18, 19, 20, 21, 22] (by decide +kernel) rfl) hN (ci := 10) (q0 := 0) rfl rfl) rfl rfl hl.1 rfl (lv_room (Nat.le_of_ble_eq_true rfl)) dL_law_535 ⟨Nat.le_of_ble_eq_true rfl, Nat.le_of_ble_eq_true rfl⟩) hP hD hS hA [0, 14, 15, 16, 17, 18, 19, 20, 21, 22] rfl (fun _ => rfl) (fun r3 u1 H locs hw2 => ?_)
  clear hP hS
  intro hP hS
  obtain ⟨pt_4, ps_5, ha_6, re_7⟩ := u1
  replace hw2 : r3.toInt = sp_share (nx 3) (fx 3) (fx 4) (fx 5) (fx 6) xk1 xk2 xk3 := hw2
  refine lv_pop hx hb dL_law_538 rfl ?_
  have hPx : va_P D vwCl (wX ad rw sd cI cY cJ cQ nx (upR (upR (upR (upR fx 7 pt_4) 8 ps_5) 9 ha_6) 10 re_7) rs lo ++ wM md sd cI cY cJ cQ ny fy fl) H := hP
  have hDx : va_D (fun q : Nat => s.heap.size ≤ q) (wX ad rw sd cI cY cJ cQ nx (upR (upR (upR (upR fx 7 pt_4) 8 ps_5) 9 ha_6) 10 re_7) rs lo ++ wM md sd cI cY cJ cQ ny fy fl) := wXM_D hD
  have hP := hPx.comm
  have hD := hDx.comm
  refine lv_aload_n hx hb dL_law_539 rfl (lv_at hl 2 rfl) ?_
  refine law_arg (v := 1) hx hb hX hbl hbA hS (lv_at hl 0 rfl) (lv_at hl 3 rfl) (by decide) hak1 exk1 dL_law_540 dL_law_541 dL_law_542 dL_law_543 dL_law_544 ?_
  refine law_arg (v := 2) hx hb hX hbl hbA hS (lv_at hl 0 rfl) (lv_at hl 3 rfl) (by decide) hak2 exk2 dL_law_545 dL_law_546 dL_law_547 dL_law_548 dL_law_549 ?_
  refine law_arg (v := 3) hx hb hX hbl hbA hS (lv_at hl 0 rfl) (lv_at hl 3 rfl) (by decide) hak3 exk3 dL_law_550 dL_law_551 dL_law_552 dL_law_553 dL_law_554 ?_
  refine st_iU (va_runV (C := RX11) (As := [.int xk1, .int xk2, .int xk3]) (rest := []) ⟨hx, hb, hml, hown, hts⟩ (ct_X11_share l D cI cY cJ cQ _ md sd (ny 0) (ny 1) (ny 2) (ny 3) (ny 4) (ny 5) (ny 6) (ny 7) (ny 8) (ny 9) (ny 10) (ny 11) (ny 12) (ny 13) (ny 14) (ny 15) (ny 16) (ny 17) (ny 18) (ny 19) (ny 20) (ny 21) (ny 22) (fy 3) (fy 4) (fy 5) (fy 6) (fy 7) (fy 8) (fy 9) fl xk1 xk2 xk3 Mhna Mhnb (by assumption)) (cwV 3 hts gL_law_X11_share rfl rfl rfl ⟨rfl, cdX11_share⟩ ⟨Nat.le_of_ble_eq_true rfl, Nat.le_of_ble_eq_true rfl⟩) (cPreV (hP.sub [0, 4, 5, 6, 7, 8, 9, 10, 11] rfl) hK (hD.sub [0, 4, 5, 6, 7, 8, 9, 10, 11] (by decide +kernel) rfl) hN (ci := 11) (q0 := 0) rfl rfl) rfl rfl hl.1 rfl (lv_room (Nat.le_of_ble_eq_true rfl)) dL_law_555 ⟨Nat.le_of_ble_eq_true rfl, Nat.le_of_ble_eq_true rfl⟩) hP hD hS hA [0, 4, 5, 6, 7, 8, 9, 10, 11] rfl (fun _ => rfl) (fun r10 u8 H locs hw9 => ?_)
  clear hP hS
  intro hP hS
  obtain ⟨mh_11, mp_12, mt_13, mf_14⟩ := u8
  replace hw9 : r10.toInt = sm_share (ny 2) (fy 3) (fy 4) (fy 5) (fy 6) xk1 xk2 xk3 := hw9
  rw [Chn, Cho, Chc, Chp, Chs, ← share_eq (by omega) (by omega) XD XN XV] at hw9
  have e90 := i_of (hw2.trans hw9.symm)
  refine lv_pop hx hb dL_law_558 rfl ?_
  refine lv_goto (tgt := 1652) hx hb dL_law_559 (by decide) ?_
  have hPm : va_P D vwCl (wM md sd cI cY cJ cQ (upd ny 0 0) (upR (upR (upR fy 7 mh_11) 8 mp_12) 9 mt_13) mf_14 ++ wX ad rw sd cI cY cJ cQ nx (upR (upR (upR (upR fx 7 pt_4) 8 ps_5) 9 ha_6) 10 re_7) rs lo) H := hP
  have hDm : va_D (fun q : Nat => s.heap.size ≤ q) (wM md sd cI cY cJ cQ (upd ny 0 0) (upR (upR (upR fy 7 mh_11) 8 mp_12) 9 mt_13) mf_14 ++ wX ad rw sd cI cY cJ cQ nx (upR (upR (upR (upR fx 7 pt_4) 8 ps_5) 9 ha_6) 10 re_7) rs lo) := wMX_D hD
  exact kk nx (upR (upR (upR (upR fx 7 pt_4) 8 ps_5) 9 ha_6) 10 re_7) rs lo (upd ny 0 0) (upR (upR (upR fy 7 mh_11) 8 mp_12) 9 mt_13) mf_14 H locs ls ⟨Xhna, Xhnb, XH, XD, XV, XN, Xcna, Xcnb, XF, Xpna, Xpnb, XG, XO, XW, Xgna, Xgnb, XJ, Xlna, Xlnb, Xdla, Xdlb, Xana, Xanb, Xuna, Xunb, XU, Xlca, Xlcb, Xtna, Xtnb, XS, Mhna, Mhnb, MH, MS, Mmlna, Mmlnb, Mmtna, Mmtnb, Chn, Cho, Chc, Chp, Chs, Ccn, Cfo, Cwo, Cpn, Cpk, Cpf, Cpo, Cpd, Cpe, Cgn, Cgk, Cgs, Cgd, Cge, Can, Cak, Cah, Cay, Caz, Cun, Cuk, Cuy, Cuw, Cum, Clc, Clp, Cla, Clb, Caw, Ciw, Cln, Ctd, Cro, Cmtn, Cmtr, Cmst, Csh⟩ hPm.comm hDm.comm hS hl
end

section
theorem cdX10_truly : yX10_truly.cls ≠ "java/lang/invoke/MethodHandle" ∧ yX10_truly.cls ≠ "java/lang/invoke/VarHandle" ∧ (parseMethodDescriptor yX10_truly.desc).map (fun d => d.parameters.length) = some 2 := by decide +kernel
theorem cdX10_rings : yX10_rings.cls ≠ "java/lang/invoke/MethodHandle" ∧ yX10_rings.cls ≠ "java/lang/invoke/VarHandle" ∧ (parseMethodDescriptor yX10_rings.desc).map (fun d => d.parameters.length) = some 1 := by decide +kernel
theorem cdX10_crate : yX10_crate.cls ≠ "java/lang/invoke/MethodHandle" ∧ yX10_crate.cls ≠ "java/lang/invoke/VarHandle" ∧ (parseMethodDescriptor yX10_crate.desc).map (fun d => d.parameters.length) = some 2 := by decide +kernel
theorem cdX10_paper : yX10_paper.cls ≠ "java/lang/invoke/MethodHandle" ∧ yX10_paper.cls ≠ "java/lang/invoke/VarHandle" ∧ (parseMethodDescriptor yX10_paper.desc).map (fun d => d.parameters.length) = some 5 := by decide +kernel
theorem cdX11_truly : yX11_truly.cls ≠ "java/lang/invoke/MethodHandle" ∧ yX11_truly.cls ≠ "java/lang/invoke/VarHandle" ∧ (parseMethodDescriptor yX11_truly.desc).map (fun d => d.parameters.length) = some 2 := by decide +kernel
theorem cdX11_rings : yX11_rings.cls ≠ "java/lang/invoke/MethodHandle" ∧ yX11_rings.cls ≠ "java/lang/invoke/VarHandle" ∧ (parseMethodDescriptor yX11_rings.desc).map (fun d => d.parameters.length) = some 1 := by decide +kernel
theorem cdX11_crate : yX11_crate.cls ≠ "java/lang/invoke/MethodHandle" ∧ yX11_crate.cls ≠ "java/lang/invoke/VarHandle" ∧ (parseMethodDescriptor yX11_crate.desc).map (fun d => d.parameters.length) = some 2 := by decide +kernel
theorem cdX11_paper : yX11_paper.cls ≠ "java/lang/invoke/MethodHandle" ∧ yX11_paper.cls ≠ "java/lang/invoke/VarHandle" ∧ (parseMethodDescriptor yX11_paper.desc).map (fun d => d.parameters.length) = some 5 := by decide +kernel
theorem Gd_X10_truly : gdA wsX10_truly := gd_cons (by decide +kernel) (gd_app (gd_all (ws := wsX10_truly_o1) (by decide +kernel)) (gd_app (gd_app (gd_app Gd_X100 Gd_X30) Gd_X10_isOwner) (gd_app (gd_app Gd_X10_isDay Gd_X3_lookAt) Gd_X3_shareOf)))
theorem Gd_X10_rings : gdA wsX10_rings := gd_cons (by decide +kernel) (gd_app (gd_all (ws := wsX10_rings_o1) (by decide +kernel)) (gd_app (gd_app (gd_app Gd_X100 Gd_X30) Gd_X10_isDay) (gd_app Gd_X3_lookAt Gd_X10_hasBit)))
theorem Gd_X10_crate : gdA wsX10_crate := gd_cons (by decide +kernel) (gd_app (gd_all (ws := wsX10_crate_o1) (by decide +kernel)) (gd_app (gd_app (gd_app Gd_X100 Gd_X10) Gd_X10_isOwner) (gd_app Gd_X10_isFrom Gd_X1_tell)))
theorem Gd_X10_paper : gdA wsX10_paper := gd_cons (by decide +kernel) (gd_app (gd_all (ws := wsX10_paper_o1) (by decide +kernel)) (gd_app (gd_app (gd_app Gd_X100 Gd_X70) (gd_app Gd_X10 Gd_X10_isCrate)) (gd_app (gd_app Gd_X10_isOwner Gd_X10_areDays) Gd_X7_tell)))
theorem Gd_X11_truly : gdA wsX11_truly := gd_cons (by decide +kernel) (gd_app (gd_all (ws := wsX11_truly_o1) (by decide +kernel)) (gd_app (gd_app Gd_X110 Gd_X11_isOwner) (gd_app Gd_X11_isDay Gd_X11_shareOf)))
theorem Gd_X11_rings : gdA wsX11_rings := gd_cons (by decide +kernel) (gd_app (gd_all (ws := wsX11_rings_o1) (by decide +kernel)) (gd_app (gd_app Gd_X110 Gd_X11_isDay) Gd_X11_findHas))
theorem Gd_X11_crate : gdA wsX11_crate := gd_cons (by decide +kernel) (gd_app (gd_all (ws := wsX11_crate_o1) (by decide +kernel)) (gd_app (gd_app Gd_X110 Gd_X11_isOwner) Gd_X11_in))
theorem Gd_X11_paper : gdA wsX11_paper := gd_cons (by decide +kernel) (gd_app (gd_all (ws := wsX11_paper_o1) (by decide +kernel)) (gd_app (gd_app (gd_app Gd_X110 Gd_X11_isCrate) Gd_X11_isOwner) (gd_app Gd_X11_isDay Gd_X11_in)))
theorem ggL_law_X10_truly : GoodIn wsL_law wsX10_truly := goodIn_s (fun _ h => (wm_r (wm_l (wm_r (wm_l (wm_r (wm_l (wm_r h)))))))) Gd_X10_truly
theorem gL_law_X10_truly : GoodIn wsL_law (wsV RL 57 RX10 yX10_truly wsX10_truly) := goodIn_V (own := RL) (idx := 57) (C := RX10) (y := yX10_truly) (wm_l (wm_l (wm_l (wm_r (wm_i 13 rfl))))) (wm_l (wm_l (wm_l (wm_r (wm_i 14 rfl))))) (wm_l (wm_l (wm_l (wm_r (wm_i 15 rfl))))) (wm_l (wm_l (wm_l (wm_l (wm_l (wm_i 2 rfl)))))) ggL_law_X10_truly
theorem ggL_law_X11_truly : GoodIn wsL_law wsX11_truly := goodIn_s (fun _ h => (wm_r (wm_l (wm_r (wm_l (wm_r (wm_r (wm_l (wm_l h))))))))) Gd_X11_truly
theorem gL_law_X11_truly : GoodIn wsL_law (wsV RL 61 RX11 yX11_truly wsX11_truly) := goodIn_V (own := RL) (idx := 61) (C := RX11) (y := yX11_truly) (wm_l (wm_l (wm_l (wm_r (wm_i 16 rfl))))) (wm_l (wm_l (wm_l (wm_r (wm_i 17 rfl))))) (wm_l (wm_l (wm_l (wm_r (wm_i 18 rfl))))) (wm_l (wm_l (wm_l (wm_l (wm_l (wm_i 5 rfl)))))) ggL_law_X11_truly
theorem ggL_law_X10_rings : GoodIn wsL_law wsX10_rings := goodIn_s (fun _ h => (wm_r (wm_l (wm_r (wm_l (wm_r (wm_r (wm_l (wm_r h))))))))) Gd_X10_rings
theorem gL_law_X10_rings : GoodIn wsL_law (wsV RL 62 RX10 yX10_rings wsX10_rings) := goodIn_V (own := RL) (idx := 62) (C := RX10) (y := yX10_rings) (wm_l (wm_l (wm_l (wm_r (wm_i 19 rfl))))) (wm_l (wm_l (wm_l (wm_r (wm_i 20 rfl))))) (wm_l (wm_l (wm_l (wm_r (wm_i 21 rfl))))) (wm_l (wm_l (wm_l (wm_l (wm_l (wm_i 2 rfl)))))) ggL_law_X10_rings
theorem ggL_law_X11_rings : GoodIn wsL_law wsX11_rings := goodIn_s (fun _ h => (wm_r (wm_l (wm_r (wm_l (wm_r (wm_r (wm_r h)))))))) Gd_X11_rings
theorem gL_law_X11_rings : GoodIn wsL_law (wsV RL 65 RX11 yX11_rings wsX11_rings) := goodIn_V (own := RL) (idx := 65) (C := RX11) (y := yX11_rings) (wm_l (wm_l (wm_l (wm_r (wm_i 22 rfl))))) (wm_l (wm_l (wm_l (wm_r (wm_i 23 rfl))))) (wm_l (wm_l (wm_r (wm_l (wm_l (wm_i 0 rfl)))))) (wm_l (wm_l (wm_l (wm_l (wm_l (wm_i 5 rfl)))))) ggL_law_X11_rings
theorem ggL_law_X10_crate : GoodIn wsL_law wsX10_crate := goodIn_s (fun _ h => (wm_r (wm_l (wm_r (wm_r (wm_l (wm_l (wm_l (wm_l h))))))))) Gd_X10_crate
theorem gL_law_X10_crate : GoodIn wsL_law (wsV RL 66 RX10 yX10_crate wsX10_crate) := goodIn_V (own := RL) (idx := 66) (C := RX10) (y := yX10_crate) (wm_l (wm_l (wm_r (wm_l (wm_l (wm_i 1 rfl)))))) (wm_l (wm_l (wm_r (wm_l (wm_l (wm_i 2 rfl)))))) (wm_l (wm_l (wm_r (wm_l (wm_l (wm_i 3 rfl)))))) (wm_l (wm_l (wm_l (wm_l (wm_l (wm_i 2 rfl)))))) ggL_law_X10_crate
theorem ggL_law_X11_crate : GoodIn wsL_law wsX11_crate := goodIn_s (fun _ h => (wm_r (wm_l (wm_r (wm_r (wm_l (wm_l (wm_l (wm_r h))))))))) Gd_X11_crate
theorem gL_law_X11_crate : GoodIn wsL_law (wsV RL 69 RX11 yX11_crate wsX11_crate) := goodIn_V (own := RL) (idx := 69) (C := RX11) (y := yX11_crate) (wm_l (wm_l (wm_r (wm_l (wm_l (wm_i 4 rfl)))))) (wm_l (wm_l (wm_r (wm_l (wm_l (wm_i 5 rfl)))))) (wm_l (wm_l (wm_r (wm_l (wm_l (wm_i 6 rfl)))))) (wm_l (wm_l (wm_l (wm_l (wm_l (wm_i 5 rfl)))))) ggL_law_X11_crate
theorem ggL_law_X10_paper : GoodIn wsL_law wsX10_paper := goodIn_s (fun _ h => (wm_r (wm_l (wm_r (wm_r (wm_l (wm_l (wm_r h)))))))) Gd_X10_paper
theorem gL_law_X10_paper : GoodIn wsL_law (wsV RL 70 RX10 yX10_paper wsX10_paper) := goodIn_V (own := RL) (idx := 70) (C := RX10) (y := yX10_paper) (wm_l (wm_l (wm_r (wm_l (wm_l (wm_i 7 rfl)))))) (wm_l (wm_l (wm_r (wm_l (wm_l (wm_i 8 rfl)))))) (wm_l (wm_l (wm_r (wm_l (wm_l (wm_i 9 rfl)))))) (wm_l (wm_l (wm_l (wm_l (wm_l (wm_i 2 rfl)))))) ggL_law_X10_paper
theorem ggL_law_X11_paper : GoodIn wsL_law wsX11_paper := goodIn_s (fun _ h => (wm_r (wm_l (wm_r (wm_r (wm_l (wm_r (wm_l (wm_l h))))))))) Gd_X11_paper
theorem gL_law_X11_paper : GoodIn wsL_law (wsV RL 73 RX11 yX11_paper wsX11_paper) := goodIn_V (own := RL) (idx := 73) (C := RX11) (y := yX11_paper) (wm_l (wm_l (wm_r (wm_l (wm_l (wm_i 10 rfl)))))) (wm_l (wm_l (wm_r (wm_l (wm_l (wm_i 11 rfl)))))) (wm_l (wm_l (wm_r (wm_l (wm_l (wm_i 12 rfl)))))) (wm_l (wm_l (wm_l (wm_l (wm_l (wm_i 5 rfl)))))) ggL_law_X11_paper
theorem sB_24 : dqA cL_law 576 sL_24 := dq_next sB_23 24 rfl
theorem sB_25 : dqA cL_law 600 sL_25 := dq_next sB_24 24 rfl
theorem sB_26 : dqA cL_law 624 sL_26 := dq_next sB_25 24 rfl
theorem sB_27 : dqA cL_law 648 sL_27 := dq_next sB_26 24 rfl
theorem sB_28 : dqA cL_law 672 sL_28 := dq_next sB_27 24 rfl
theorem sB_29 : dqA cL_law 696 sL_29 := dq_next sB_28 24 rfl
theorem dL_law_562 : decode cL_law 562 = .ok (.aload_n 1, 1) := dL_law_all27.2.2.2.2.2.2.2.2.2.2.1
theorem dL_law_563 : decode cL_law 563 = .ok (.aload_n 0, 1) := dL_law_all27.2.2.2.2.2.2.2.2.2.2.2
theorem dL_law_all28 : decode cL_law 564 = .ok (.iload_n 3, 1) ∧ decode cL_law 565 = .ok (.iconst 1, 1) ∧ decode cL_law 566 = .ok (.iadd, 1) ∧ decode cL_law 567 = .ok (.iaload, 1) ∧ decode cL_law 568 = .ok (.aload_n 0, 1) ∧ decode cL_law 569 = .ok (.iload_n 3, 1) ∧ decode cL_law 570 = .ok (.iconst 2, 1) ∧ decode cL_law 571 = .ok (.iadd, 1) ∧ decode cL_law 572 = .ok (.iaload, 1) ∧ decode cL_law 573 = .ok (.invokevirtual 57, 3) ∧ decode cL_law 576 = .ok (.pop, 1) ∧ decode cL_law 577 = .ok (.aload_n 2, 1) := ⟨dq_29 sB_23 12 rfl, dq_4 sB_23 13 rfl, dq_96 sB_23 14 rfl, dq_46 sB_23 15 rfl, dq_42 sB_23 16 rfl, dq_29 sB_23 17 rfl, dq_5 sB_23 18 rfl, dq_96 sB_23 19 rfl, dq_46 sB_23 20 rfl, dq_182 sB_23 21 rfl 57 (by decide), dq_87 sB_24 0 rfl, dq_44 sB_24 1 rfl⟩
theorem dL_law_564 : decode cL_law 564 = .ok (.iload_n 3, 1) := dL_law_all28.1
theorem dL_law_565 : decode cL_law 565 = .ok (.iconst 1, 1) := dL_law_all28.2.1
theorem dL_law_566 : decode cL_law 566 = .ok (.iadd, 1) := dL_law_all28.2.2.1
theorem dL_law_567 : decode cL_law 567 = .ok (.iaload, 1) := dL_law_all28.2.2.2.1
theorem dL_law_568 : decode cL_law 568 = .ok (.aload_n 0, 1) := dL_law_all28.2.2.2.2.1
theorem dL_law_569 : decode cL_law 569 = .ok (.iload_n 3, 1) := dL_law_all28.2.2.2.2.2.1
theorem dL_law_570 : decode cL_law 570 = .ok (.iconst 2, 1) := dL_law_all28.2.2.2.2.2.2.1
theorem dL_law_571 : decode cL_law 571 = .ok (.iadd, 1) := dL_law_all28.2.2.2.2.2.2.2.1
theorem dL_law_572 : decode cL_law 572 = .ok (.iaload, 1) := dL_law_all28.2.2.2.2.2.2.2.2.1
theorem dL_law_573 : decode cL_law 573 = .ok (.invokevirtual 57, 3) := dL_law_all28.2.2.2.2.2.2.2.2.2.1
theorem dL_law_576 : decode cL_law 576 = .ok (.pop, 1) := dL_law_all28.2.2.2.2.2.2.2.2.2.2.1
theorem dL_law_577 : decode cL_law 577 = .ok (.aload_n 2, 1) := dL_law_all28.2.2.2.2.2.2.2.2.2.2.2
theorem dL_law_all29 : decode cL_law 578 = .ok (.aload_n 0, 1) ∧ decode cL_law 579 = .ok (.iload_n 3, 1) ∧ decode cL_law 580 = .ok (.iconst 1, 1) ∧ decode cL_law 581 = .ok (.iadd, 1) ∧ decode cL_law 582 = .ok (.iaload, 1) ∧ decode cL_law 583 = .ok (.aload_n 0, 1) ∧ decode cL_law 584 = .ok (.iload_n 3, 1) ∧ decode cL_law 585 = .ok (.iconst 2, 1) ∧ decode cL_law 586 = .ok (.iadd, 1) ∧ decode cL_law 587 = .ok (.iaload, 1) ∧ decode cL_law 588 = .ok (.invokevirtual 61, 3) ∧ decode cL_law 591 = .ok (.pop, 1) := ⟨dq_42 sB_24 2 rfl, dq_29 sB_24 3 rfl, dq_4 sB_24 4 rfl, dq_96 sB_24 5 rfl, dq_46 sB_24 6 rfl, dq_42 sB_24 7 rfl, dq_29 sB_24 8 rfl, dq_5 sB_24 9 rfl, dq_96 sB_24 10 rfl, dq_46 sB_24 11 rfl, dq_182 sB_24 12 rfl 61 (by decide), dq_87 sB_24 15 rfl⟩
theorem dL_law_578 : decode cL_law 578 = .ok (.aload_n 0, 1) := dL_law_all29.1
theorem dL_law_579 : decode cL_law 579 = .ok (.iload_n 3, 1) := dL_law_all29.2.1
theorem dL_law_580 : decode cL_law 580 = .ok (.iconst 1, 1) := dL_law_all29.2.2.1
theorem dL_law_581 : decode cL_law 581 = .ok (.iadd, 1) := dL_law_all29.2.2.2.1
theorem dL_law_582 : decode cL_law 582 = .ok (.iaload, 1) := dL_law_all29.2.2.2.2.1
theorem dL_law_583 : decode cL_law 583 = .ok (.aload_n 0, 1) := dL_law_all29.2.2.2.2.2.1
theorem dL_law_584 : decode cL_law 584 = .ok (.iload_n 3, 1) := dL_law_all29.2.2.2.2.2.2.1
theorem dL_law_585 : decode cL_law 585 = .ok (.iconst 2, 1) := dL_law_all29.2.2.2.2.2.2.2.1
theorem dL_law_586 : decode cL_law 586 = .ok (.iadd, 1) := dL_law_all29.2.2.2.2.2.2.2.2.1
theorem dL_law_587 : decode cL_law 587 = .ok (.iaload, 1) := dL_law_all29.2.2.2.2.2.2.2.2.2.1
theorem dL_law_588 : decode cL_law 588 = .ok (.invokevirtual 61, 3) := dL_law_all29.2.2.2.2.2.2.2.2.2.2.1
theorem dL_law_591 : decode cL_law 591 = .ok (.pop, 1) := dL_law_all29.2.2.2.2.2.2.2.2.2.2.2
theorem dL_law_all30 : decode cL_law 592 = .ok (.goto 1060, 3) ∧ decode cL_law 595 = .ok (.aload_n 1, 1) ∧ decode cL_law 596 = .ok (.aload_n 0, 1) ∧ decode cL_law 597 = .ok (.iload_n 3, 1) ∧ decode cL_law 598 = .ok (.iconst 1, 1) ∧ decode cL_law 599 = .ok (.iadd, 1) ∧ decode cL_law 600 = .ok (.iaload, 1) ∧ decode cL_law 601 = .ok (.invokevirtual 62, 3) ∧ decode cL_law 604 = .ok (.pop, 1) ∧ decode cL_law 605 = .ok (.aload_n 2, 1) ∧ decode cL_law 606 = .ok (.aload_n 0, 1) ∧ decode cL_law 607 = .ok (.iload_n 3, 1) := ⟨dq_167 sB_24 16 rfl 1060 (by decide), dq_43 sB_24 19 rfl, dq_42 sB_24 20 rfl, dq_29 sB_24 21 rfl, dq_4 sB_24 22 rfl, dq_96 sB_24 23 rfl, dq_46 sB_25 0 rfl, dq_182 sB_25 1 rfl 62 (by decide), dq_87 sB_25 4 rfl, dq_44 sB_25 5 rfl, dq_42 sB_25 6 rfl, dq_29 sB_25 7 rfl⟩
theorem dL_law_592 : decode cL_law 592 = .ok (.goto 1060, 3) := dL_law_all30.1
theorem dL_law_595 : decode cL_law 595 = .ok (.aload_n 1, 1) := dL_law_all30.2.1
theorem dL_law_596 : decode cL_law 596 = .ok (.aload_n 0, 1) := dL_law_all30.2.2.1
theorem dL_law_597 : decode cL_law 597 = .ok (.iload_n 3, 1) := dL_law_all30.2.2.2.1
theorem dL_law_598 : decode cL_law 598 = .ok (.iconst 1, 1) := dL_law_all30.2.2.2.2.1
theorem dL_law_599 : decode cL_law 599 = .ok (.iadd, 1) := dL_law_all30.2.2.2.2.2.1
theorem dL_law_600 : decode cL_law 600 = .ok (.iaload, 1) := dL_law_all30.2.2.2.2.2.2.1
theorem dL_law_601 : decode cL_law 601 = .ok (.invokevirtual 62, 3) := dL_law_all30.2.2.2.2.2.2.2.1
theorem dL_law_604 : decode cL_law 604 = .ok (.pop, 1) := dL_law_all30.2.2.2.2.2.2.2.2.1
theorem dL_law_605 : decode cL_law 605 = .ok (.aload_n 2, 1) := dL_law_all30.2.2.2.2.2.2.2.2.2.1
theorem dL_law_606 : decode cL_law 606 = .ok (.aload_n 0, 1) := dL_law_all30.2.2.2.2.2.2.2.2.2.2.1
theorem dL_law_607 : decode cL_law 607 = .ok (.iload_n 3, 1) := dL_law_all30.2.2.2.2.2.2.2.2.2.2.2
theorem dL_law_all31 : decode cL_law 608 = .ok (.iconst 1, 1) ∧ decode cL_law 609 = .ok (.iadd, 1) ∧ decode cL_law 610 = .ok (.iaload, 1) ∧ decode cL_law 611 = .ok (.invokevirtual 65, 3) ∧ decode cL_law 614 = .ok (.pop, 1) ∧ decode cL_law 615 = .ok (.goto 1037, 3) ∧ decode cL_law 618 = .ok (.aload_n 1, 1) ∧ decode cL_law 619 = .ok (.aload_n 0, 1) ∧ decode cL_law 620 = .ok (.iload_n 3, 1) ∧ decode cL_law 621 = .ok (.iconst 1, 1) ∧ decode cL_law 622 = .ok (.iadd, 1) ∧ decode cL_law 623 = .ok (.iaload, 1) := ⟨dq_4 sB_25 8 rfl, dq_96 sB_25 9 rfl, dq_46 sB_25 10 rfl, dq_182 sB_25 11 rfl 65 (by decide), dq_87 sB_25 14 rfl, dq_167 sB_25 15 rfl 1037 (by decide), dq_43 sB_25 18 rfl, dq_42 sB_25 19 rfl, dq_29 sB_25 20 rfl, dq_4 sB_25 21 rfl, dq_96 sB_25 22 rfl, dq_46 sB_25 23 rfl⟩
theorem dL_law_608 : decode cL_law 608 = .ok (.iconst 1, 1) := dL_law_all31.1
theorem dL_law_609 : decode cL_law 609 = .ok (.iadd, 1) := dL_law_all31.2.1
theorem dL_law_610 : decode cL_law 610 = .ok (.iaload, 1) := dL_law_all31.2.2.1
theorem dL_law_611 : decode cL_law 611 = .ok (.invokevirtual 65, 3) := dL_law_all31.2.2.2.1
theorem dL_law_614 : decode cL_law 614 = .ok (.pop, 1) := dL_law_all31.2.2.2.2.1
theorem dL_law_615 : decode cL_law 615 = .ok (.goto 1037, 3) := dL_law_all31.2.2.2.2.2.1
theorem dL_law_618 : decode cL_law 618 = .ok (.aload_n 1, 1) := dL_law_all31.2.2.2.2.2.2.1
theorem dL_law_619 : decode cL_law 619 = .ok (.aload_n 0, 1) := dL_law_all31.2.2.2.2.2.2.2.1
theorem dL_law_620 : decode cL_law 620 = .ok (.iload_n 3, 1) := dL_law_all31.2.2.2.2.2.2.2.2.1
theorem dL_law_621 : decode cL_law 621 = .ok (.iconst 1, 1) := dL_law_all31.2.2.2.2.2.2.2.2.2.1
theorem dL_law_622 : decode cL_law 622 = .ok (.iadd, 1) := dL_law_all31.2.2.2.2.2.2.2.2.2.2.1
theorem dL_law_623 : decode cL_law 623 = .ok (.iaload, 1) := dL_law_all31.2.2.2.2.2.2.2.2.2.2.2
theorem dL_law_all32 : decode cL_law 624 = .ok (.aload_n 0, 1) ∧ decode cL_law 625 = .ok (.iload_n 3, 1) ∧ decode cL_law 626 = .ok (.iconst 2, 1) ∧ decode cL_law 627 = .ok (.iadd, 1) ∧ decode cL_law 628 = .ok (.iaload, 1) ∧ decode cL_law 629 = .ok (.invokevirtual 66, 3) ∧ decode cL_law 632 = .ok (.pop, 1) ∧ decode cL_law 633 = .ok (.aload_n 2, 1) ∧ decode cL_law 634 = .ok (.aload_n 0, 1) ∧ decode cL_law 635 = .ok (.iload_n 3, 1) ∧ decode cL_law 636 = .ok (.iconst 1, 1) ∧ decode cL_law 637 = .ok (.iadd, 1) := ⟨dq_42 sB_26 0 rfl, dq_29 sB_26 1 rfl, dq_5 sB_26 2 rfl, dq_96 sB_26 3 rfl, dq_46 sB_26 4 rfl, dq_182 sB_26 5 rfl 66 (by decide), dq_87 sB_26 8 rfl, dq_44 sB_26 9 rfl, dq_42 sB_26 10 rfl, dq_29 sB_26 11 rfl, dq_4 sB_26 12 rfl, dq_96 sB_26 13 rfl⟩
theorem dL_law_624 : decode cL_law 624 = .ok (.aload_n 0, 1) := dL_law_all32.1
theorem dL_law_625 : decode cL_law 625 = .ok (.iload_n 3, 1) := dL_law_all32.2.1
theorem dL_law_626 : decode cL_law 626 = .ok (.iconst 2, 1) := dL_law_all32.2.2.1
theorem dL_law_627 : decode cL_law 627 = .ok (.iadd, 1) := dL_law_all32.2.2.2.1
theorem dL_law_628 : decode cL_law 628 = .ok (.iaload, 1) := dL_law_all32.2.2.2.2.1
theorem dL_law_629 : decode cL_law 629 = .ok (.invokevirtual 66, 3) := dL_law_all32.2.2.2.2.2.1
theorem dL_law_632 : decode cL_law 632 = .ok (.pop, 1) := dL_law_all32.2.2.2.2.2.2.1
theorem dL_law_633 : decode cL_law 633 = .ok (.aload_n 2, 1) := dL_law_all32.2.2.2.2.2.2.2.1
theorem dL_law_634 : decode cL_law 634 = .ok (.aload_n 0, 1) := dL_law_all32.2.2.2.2.2.2.2.2.1
theorem dL_law_635 : decode cL_law 635 = .ok (.iload_n 3, 1) := dL_law_all32.2.2.2.2.2.2.2.2.2.1
theorem dL_law_636 : decode cL_law 636 = .ok (.iconst 1, 1) := dL_law_all32.2.2.2.2.2.2.2.2.2.2.1
theorem dL_law_637 : decode cL_law 637 = .ok (.iadd, 1) := dL_law_all32.2.2.2.2.2.2.2.2.2.2.2
theorem dL_law_all33 : decode cL_law 638 = .ok (.iaload, 1) ∧ decode cL_law 639 = .ok (.aload_n 0, 1) ∧ decode cL_law 640 = .ok (.iload_n 3, 1) ∧ decode cL_law 641 = .ok (.iconst 2, 1) ∧ decode cL_law 642 = .ok (.iadd, 1) ∧ decode cL_law 643 = .ok (.iaload, 1) ∧ decode cL_law 644 = .ok (.invokevirtual 69, 3) ∧ decode cL_law 647 = .ok (.pop, 1) ∧ decode cL_law 648 = .ok (.goto 1004, 3) ∧ decode cL_law 651 = .ok (.aload_n 1, 1) ∧ decode cL_law 652 = .ok (.aload_n 0, 1) ∧ decode cL_law 653 = .ok (.iload_n 3, 1) := ⟨dq_46 sB_26 14 rfl, dq_42 sB_26 15 rfl, dq_29 sB_26 16 rfl, dq_5 sB_26 17 rfl, dq_96 sB_26 18 rfl, dq_46 sB_26 19 rfl, dq_182 sB_26 20 rfl 69 (by decide), dq_87 sB_26 23 rfl, dq_167 sB_27 0 rfl 1004 (by decide), dq_43 sB_27 3 rfl, dq_42 sB_27 4 rfl, dq_29 sB_27 5 rfl⟩
theorem dL_law_638 : decode cL_law 638 = .ok (.iaload, 1) := dL_law_all33.1
theorem dL_law_639 : decode cL_law 639 = .ok (.aload_n 0, 1) := dL_law_all33.2.1
theorem dL_law_640 : decode cL_law 640 = .ok (.iload_n 3, 1) := dL_law_all33.2.2.1
theorem dL_law_641 : decode cL_law 641 = .ok (.iconst 2, 1) := dL_law_all33.2.2.2.1
theorem dL_law_642 : decode cL_law 642 = .ok (.iadd, 1) := dL_law_all33.2.2.2.2.1
theorem dL_law_643 : decode cL_law 643 = .ok (.iaload, 1) := dL_law_all33.2.2.2.2.2.1
theorem dL_law_644 : decode cL_law 644 = .ok (.invokevirtual 69, 3) := dL_law_all33.2.2.2.2.2.2.1
theorem dL_law_647 : decode cL_law 647 = .ok (.pop, 1) := dL_law_all33.2.2.2.2.2.2.2.1
theorem dL_law_648 : decode cL_law 648 = .ok (.goto 1004, 3) := dL_law_all33.2.2.2.2.2.2.2.2.1
theorem dL_law_651 : decode cL_law 651 = .ok (.aload_n 1, 1) := dL_law_all33.2.2.2.2.2.2.2.2.2.1
theorem dL_law_652 : decode cL_law 652 = .ok (.aload_n 0, 1) := dL_law_all33.2.2.2.2.2.2.2.2.2.2.1
theorem dL_law_653 : decode cL_law 653 = .ok (.iload_n 3, 1) := dL_law_all33.2.2.2.2.2.2.2.2.2.2.2
theorem dL_law_all34 : decode cL_law 654 = .ok (.iconst 1, 1) ∧ decode cL_law 655 = .ok (.iadd, 1) ∧ decode cL_law 656 = .ok (.iaload, 1) ∧ decode cL_law 657 = .ok (.aload_n 0, 1) ∧ decode cL_law 658 = .ok (.iload_n 3, 1) ∧ decode cL_law 659 = .ok (.iconst 2, 1) ∧ decode cL_law 660 = .ok (.iadd, 1) ∧ decode cL_law 661 = .ok (.iaload, 1) ∧ decode cL_law 662 = .ok (.aload_n 0, 1) ∧ decode cL_law 663 = .ok (.iload_n 3, 1) ∧ decode cL_law 664 = .ok (.iconst 3, 1) ∧ decode cL_law 665 = .ok (.iadd, 1) := ⟨dq_4 sB_27 6 rfl, dq_96 sB_27 7 rfl, dq_46 sB_27 8 rfl, dq_42 sB_27 9 rfl, dq_29 sB_27 10 rfl, dq_5 sB_27 11 rfl, dq_96 sB_27 12 rfl, dq_46 sB_27 13 rfl, dq_42 sB_27 14 rfl, dq_29 sB_27 15 rfl, dq_6 sB_27 16 rfl, dq_96 sB_27 17 rfl⟩
theorem dL_law_654 : decode cL_law 654 = .ok (.iconst 1, 1) := dL_law_all34.1
theorem dL_law_655 : decode cL_law 655 = .ok (.iadd, 1) := dL_law_all34.2.1
theorem dL_law_656 : decode cL_law 656 = .ok (.iaload, 1) := dL_law_all34.2.2.1
theorem dL_law_657 : decode cL_law 657 = .ok (.aload_n 0, 1) := dL_law_all34.2.2.2.1
theorem dL_law_658 : decode cL_law 658 = .ok (.iload_n 3, 1) := dL_law_all34.2.2.2.2.1
theorem dL_law_659 : decode cL_law 659 = .ok (.iconst 2, 1) := dL_law_all34.2.2.2.2.2.1
theorem dL_law_660 : decode cL_law 660 = .ok (.iadd, 1) := dL_law_all34.2.2.2.2.2.2.1
theorem dL_law_661 : decode cL_law 661 = .ok (.iaload, 1) := dL_law_all34.2.2.2.2.2.2.2.1
theorem dL_law_662 : decode cL_law 662 = .ok (.aload_n 0, 1) := dL_law_all34.2.2.2.2.2.2.2.2.1
theorem dL_law_663 : decode cL_law 663 = .ok (.iload_n 3, 1) := dL_law_all34.2.2.2.2.2.2.2.2.2.1
theorem dL_law_664 : decode cL_law 664 = .ok (.iconst 3, 1) := dL_law_all34.2.2.2.2.2.2.2.2.2.2.1
theorem dL_law_665 : decode cL_law 665 = .ok (.iadd, 1) := dL_law_all34.2.2.2.2.2.2.2.2.2.2.2
theorem dL_law_all35 : decode cL_law 666 = .ok (.iaload, 1) ∧ decode cL_law 667 = .ok (.aload_n 0, 1) ∧ decode cL_law 668 = .ok (.iload_n 3, 1) ∧ decode cL_law 669 = .ok (.iconst 4, 1) ∧ decode cL_law 670 = .ok (.iadd, 1) ∧ decode cL_law 671 = .ok (.iaload, 1) ∧ decode cL_law 672 = .ok (.aload_n 0, 1) ∧ decode cL_law 673 = .ok (.iload_n 3, 1) ∧ decode cL_law 674 = .ok (.iconst 5, 1) ∧ decode cL_law 675 = .ok (.iadd, 1) ∧ decode cL_law 676 = .ok (.iaload, 1) ∧ decode cL_law 677 = .ok (.invokevirtual 70, 3) := ⟨dq_46 sB_27 18 rfl, dq_42 sB_27 19 rfl, dq_29 sB_27 20 rfl, dq_7 sB_27 21 rfl, dq_96 sB_27 22 rfl, dq_46 sB_27 23 rfl, dq_42 sB_28 0 rfl, dq_29 sB_28 1 rfl, dq_8 sB_28 2 rfl, dq_96 sB_28 3 rfl, dq_46 sB_28 4 rfl, dq_182 sB_28 5 rfl 70 (by decide)⟩
theorem dL_law_666 : decode cL_law 666 = .ok (.iaload, 1) := dL_law_all35.1
theorem dL_law_667 : decode cL_law 667 = .ok (.aload_n 0, 1) := dL_law_all35.2.1
theorem dL_law_668 : decode cL_law 668 = .ok (.iload_n 3, 1) := dL_law_all35.2.2.1
theorem dL_law_669 : decode cL_law 669 = .ok (.iconst 4, 1) := dL_law_all35.2.2.2.1
theorem dL_law_670 : decode cL_law 670 = .ok (.iadd, 1) := dL_law_all35.2.2.2.2.1
theorem dL_law_671 : decode cL_law 671 = .ok (.iaload, 1) := dL_law_all35.2.2.2.2.2.1
theorem dL_law_672 : decode cL_law 672 = .ok (.aload_n 0, 1) := dL_law_all35.2.2.2.2.2.2.1
theorem dL_law_673 : decode cL_law 673 = .ok (.iload_n 3, 1) := dL_law_all35.2.2.2.2.2.2.2.1
theorem dL_law_674 : decode cL_law 674 = .ok (.iconst 5, 1) := dL_law_all35.2.2.2.2.2.2.2.2.1
theorem dL_law_675 : decode cL_law 675 = .ok (.iadd, 1) := dL_law_all35.2.2.2.2.2.2.2.2.2.1
theorem dL_law_676 : decode cL_law 676 = .ok (.iaload, 1) := dL_law_all35.2.2.2.2.2.2.2.2.2.2.1
theorem dL_law_677 : decode cL_law 677 = .ok (.invokevirtual 70, 3) := dL_law_all35.2.2.2.2.2.2.2.2.2.2.2
theorem dL_law_all36 : decode cL_law 680 = .ok (.pop, 1) ∧ decode cL_law 681 = .ok (.aload_n 2, 1) ∧ decode cL_law 682 = .ok (.aload_n 0, 1) ∧ decode cL_law 683 = .ok (.iload_n 3, 1) ∧ decode cL_law 684 = .ok (.iconst 1, 1) ∧ decode cL_law 685 = .ok (.iadd, 1) ∧ decode cL_law 686 = .ok (.iaload, 1) ∧ decode cL_law 687 = .ok (.aload_n 0, 1) ∧ decode cL_law 688 = .ok (.iload_n 3, 1) ∧ decode cL_law 689 = .ok (.iconst 2, 1) ∧ decode cL_law 690 = .ok (.iadd, 1) ∧ decode cL_law 691 = .ok (.iaload, 1) := ⟨dq_87 sB_28 8 rfl, dq_44 sB_28 9 rfl, dq_42 sB_28 10 rfl, dq_29 sB_28 11 rfl, dq_4 sB_28 12 rfl, dq_96 sB_28 13 rfl, dq_46 sB_28 14 rfl, dq_42 sB_28 15 rfl, dq_29 sB_28 16 rfl, dq_5 sB_28 17 rfl, dq_96 sB_28 18 rfl, dq_46 sB_28 19 rfl⟩
theorem dL_law_680 : decode cL_law 680 = .ok (.pop, 1) := dL_law_all36.1
theorem dL_law_681 : decode cL_law 681 = .ok (.aload_n 2, 1) := dL_law_all36.2.1
theorem dL_law_682 : decode cL_law 682 = .ok (.aload_n 0, 1) := dL_law_all36.2.2.1
theorem dL_law_683 : decode cL_law 683 = .ok (.iload_n 3, 1) := dL_law_all36.2.2.2.1
theorem dL_law_684 : decode cL_law 684 = .ok (.iconst 1, 1) := dL_law_all36.2.2.2.2.1
theorem dL_law_685 : decode cL_law 685 = .ok (.iadd, 1) := dL_law_all36.2.2.2.2.2.1
theorem dL_law_686 : decode cL_law 686 = .ok (.iaload, 1) := dL_law_all36.2.2.2.2.2.2.1
theorem dL_law_687 : decode cL_law 687 = .ok (.aload_n 0, 1) := dL_law_all36.2.2.2.2.2.2.2.1
theorem dL_law_688 : decode cL_law 688 = .ok (.iload_n 3, 1) := dL_law_all36.2.2.2.2.2.2.2.2.1
theorem dL_law_689 : decode cL_law 689 = .ok (.iconst 2, 1) := dL_law_all36.2.2.2.2.2.2.2.2.2.1
theorem dL_law_690 : decode cL_law 690 = .ok (.iadd, 1) := dL_law_all36.2.2.2.2.2.2.2.2.2.2.1
theorem dL_law_691 : decode cL_law 691 = .ok (.iaload, 1) := dL_law_all36.2.2.2.2.2.2.2.2.2.2.2
theorem dL_law_all37 : decode cL_law 692 = .ok (.aload_n 0, 1) ∧ decode cL_law 693 = .ok (.iload_n 3, 1) ∧ decode cL_law 694 = .ok (.iconst 3, 1) ∧ decode cL_law 695 = .ok (.iadd, 1) ∧ decode cL_law 696 = .ok (.iaload, 1) ∧ decode cL_law 697 = .ok (.aload_n 0, 1) ∧ decode cL_law 698 = .ok (.iload_n 3, 1) ∧ decode cL_law 699 = .ok (.iconst 4, 1) ∧ decode cL_law 700 = .ok (.iadd, 1) ∧ decode cL_law 701 = .ok (.iaload, 1) ∧ decode cL_law 702 = .ok (.aload_n 0, 1) ∧ decode cL_law 703 = .ok (.iload_n 3, 1) := ⟨dq_42 sB_28 20 rfl, dq_29 sB_28 21 rfl, dq_6 sB_28 22 rfl, dq_96 sB_28 23 rfl, dq_46 sB_29 0 rfl, dq_42 sB_29 1 rfl, dq_29 sB_29 2 rfl, dq_7 sB_29 3 rfl, dq_96 sB_29 4 rfl, dq_46 sB_29 5 rfl, dq_42 sB_29 6 rfl, dq_29 sB_29 7 rfl⟩
theorem dL_law_692 : decode cL_law 692 = .ok (.aload_n 0, 1) := dL_law_all37.1
theorem dL_law_693 : decode cL_law 693 = .ok (.iload_n 3, 1) := dL_law_all37.2.1
theorem dL_law_694 : decode cL_law 694 = .ok (.iconst 3, 1) := dL_law_all37.2.2.1
theorem dL_law_695 : decode cL_law 695 = .ok (.iadd, 1) := dL_law_all37.2.2.2.1
theorem dL_law_696 : decode cL_law 696 = .ok (.iaload, 1) := dL_law_all37.2.2.2.2.1
theorem dL_law_697 : decode cL_law 697 = .ok (.aload_n 0, 1) := dL_law_all37.2.2.2.2.2.1
theorem dL_law_698 : decode cL_law 698 = .ok (.iload_n 3, 1) := dL_law_all37.2.2.2.2.2.2.1
theorem dL_law_699 : decode cL_law 699 = .ok (.iconst 4, 1) := dL_law_all37.2.2.2.2.2.2.2.1
theorem dL_law_700 : decode cL_law 700 = .ok (.iadd, 1) := dL_law_all37.2.2.2.2.2.2.2.2.1
theorem dL_law_701 : decode cL_law 701 = .ok (.iaload, 1) := dL_law_all37.2.2.2.2.2.2.2.2.2.1
theorem dL_law_702 : decode cL_law 702 = .ok (.aload_n 0, 1) := dL_law_all37.2.2.2.2.2.2.2.2.2.2.1
theorem dL_law_703 : decode cL_law 703 = .ok (.iload_n 3, 1) := dL_law_all37.2.2.2.2.2.2.2.2.2.2.2
theorem dL_law_all38 : decode cL_law 704 = .ok (.iconst 5, 1) ∧ decode cL_law 705 = .ok (.iadd, 1) ∧ decode cL_law 706 = .ok (.iaload, 1) ∧ decode cL_law 707 = .ok (.invokevirtual 73, 3) ∧ decode cL_law 710 = .ok (.pop, 1) ∧ decode cL_law 711 = .ok (.goto 941, 3) ∧ decode cL_law 714 = .ok (.aload_n 1, 1) ∧ decode cL_law 715 = .ok (.aload_n 0, 1) ∧ decode cL_law 716 = .ok (.iload_n 3, 1) ∧ decode cL_law 717 = .ok (.iconst 1, 1) ∧ decode cL_law 718 = .ok (.iadd, 1) ∧ decode cL_law 719 = .ok (.iaload, 1) := ⟨dq_8 sB_29 8 rfl, dq_96 sB_29 9 rfl, dq_46 sB_29 10 rfl, dq_182 sB_29 11 rfl 73 (by decide), dq_87 sB_29 14 rfl, dq_167 sB_29 15 rfl 941 (by decide), dq_43 sB_29 18 rfl, dq_42 sB_29 19 rfl, dq_29 sB_29 20 rfl, dq_4 sB_29 21 rfl, dq_96 sB_29 22 rfl, dq_46 sB_29 23 rfl⟩
theorem dL_law_704 : decode cL_law 704 = .ok (.iconst 5, 1) := dL_law_all38.1
theorem dL_law_705 : decode cL_law 705 = .ok (.iadd, 1) := dL_law_all38.2.1
theorem dL_law_706 : decode cL_law 706 = .ok (.iaload, 1) := dL_law_all38.2.2.1
theorem dL_law_707 : decode cL_law 707 = .ok (.invokevirtual 73, 3) := dL_law_all38.2.2.2.1
theorem dL_law_710 : decode cL_law 710 = .ok (.pop, 1) := dL_law_all38.2.2.2.2.1
theorem dL_law_711 : decode cL_law 711 = .ok (.goto 941, 3) := dL_law_all38.2.2.2.2.2.1
set_option maxHeartbeats 4000000 in
set_option maxRecDepth 100000 in
theorem law_case_8 {p : Program} {l : Launch} {e : Env} {s : State} {m : MethodId} {below : List Frame} {meth : Method} {c : Code} {D : va_G} {cI cY cJ cQ : ClassId} {b L aK aV : Nat} {xs : Nat → Int32} {ad rw md : Nat → Nat} {sd i : Int32} {nx : Nat → Int32} {fx rs : Nat → Nat → Int32} {lo : Nat → Int64} {ny : Nat → Int32} {fy : Nat → Nat → Int32} {fl : Nat → Int64} {H : Heap} {locs : List Loc} {ls : Array Slot} (C0 : lawC p s m meth c b L xs D cI cY cJ cQ aK aV) (I : inv nx fx rs ny fy) (hP : va_P D vwCl (wX ad rw sd cI cY cJ cQ nx fx rs lo ++ wM md sd cI cY cJ cQ ny fy fl) H) (hD : va_D (fun q : Nat => s.heap.size ≤ q) (wX ad rw sd cI cY cJ cQ nx fx rs lo ++ wM md sd cI cY cJ cQ ny fy fl)) (hS : va_S (fun q : Nat => s.heap.size ≤ q) s.heap H locs) (hl : lv_has ls 4 [(0, .ref b), (1, .ref (ad 0)), (2, .ref (md 64)), (3, .int i)]) (hi1 : 1 ≤ i.toInt) (hi2 : i.toInt + 5 < L) (kk : ∀ (nx : Nat → Int32) (fx rs : Nat → Nat → Int32) (lo : Nat → Int64) (ny : Nat → Int32) (fy : Nat → Nat → Int32) (fl : Nat → Int64) (H : Heap) (locs : List Loc) (ls : Array Slot), inv nx fx rs ny fy → va_P D vwCl (wX ad rw sd cI cY cJ cQ nx fx rs lo ++ wM md sd cI cY cJ cQ ny fy fl) H → va_D (fun q : Nat => s.heap.size ≤ q) (wX ad rw sd cI cY cJ cQ nx fx rs lo ++ wM md sd cI cY cJ cQ ny fy fl) → va_S (fun q : Nat => s.heap.size ≤ q) s.heap H locs → lv_has ls 4 [(0, .ref b), (1, .ref (ad 0)), (2, .ref (md 64)), (3, .int i)] → W p l e room_1 s m #[Value.ref b] below meth c H locs 107 4890 (lw_Z below #[Value.ref b] s) (F0 m 1652 ls [])) : W p l e room_1 s m #[Value.ref b] below meth c H locs 107 4890 (lw_Z below #[Value.ref b] s) (F0 m 562 ls []) := by
  obtain ⟨C1, hK, hN, hT, hL⟩ := C0
  obtain ⟨hx, hb, hr, hml, hown, hts0, hX, hbl, hlocks, hgv⟩ := C1
  have hA : ∀ q : Nat, s.heap.size ≤ q → (fun q : Nat => s.heap.size ≤ q) q := fun _ h => h
  have hbA : ¬ (fun q : Nat => s.heap.size ≤ q) b := Nat.not_le.mpr hbl
  have hts : ∀ w ∈ wsL_law, w.before #[Value.ref b] s = true := fun w h => hts0 w (wsL_law_in w h)
  replace hown : s.vm.findClass RL = some m.cls := hown
  replace hb : c.code = cL_law := hb
  have hak1 : vp_in (i + 1) L := law_in hi1 hi2 hL (by decide)
  obtain ⟨xk1, exk1⟩ : ∃ y : Int32, y = xs (i + 1).toNatClampNeg := ⟨_, rfl⟩
  have hak2 : vp_in (i + 2) L := law_in hi1 hi2 hL (by decide)
  obtain ⟨xk2, exk2⟩ : ∃ y : Int32, y = xs (i + 2).toNatClampNeg := ⟨_, rfl⟩
  refine inv_el I ?_
  intro Xhna Xhnb XH XD XV XN Xcna Xcnb XF Xpna Xpnb XG XO XW Xgna Xgnb XJ Xlna Xlnb Xdla Xdlb Xana Xanb Xuna Xunb XU Xlca Xlcb Xtna Xtnb XS Mhna Mhnb MH MS Mmlna Mmlnb Mmtna Mmtnb Chn Cho Chc Chp Chs Ccn Cfo Cwo Cpn Cpk Cpf Cpo Cpd Cpe Cgn Cgk Cgs Cgd Cge Can Cak Cah Cay Caz Cun Cuk Cuy Cuw Cum Clc Clp Cla Clb Caw Ciw Cln Ctd Cro Cmtn Cmtr Cmst Csh
  have Tcn := i_eq Ccn
  have Tpn := i_eq Cpn
  have Tgn := i_eq Cgn
  have Tan := i_eq Can
  have Tun := i_eq Cun
  have Tlc := i_eq Clc
  have Tln := i_eq Cln
  have Thn := i_eq Chn
  have MXV : okV (ny 2) (fy 5) := by rw [Chn, Chp]; exact XV
  have MXF : okF (ny 3) (fy 10) := by rw [Ccn, Cfo]; exact XF
  have MXG : okG (ny 4) (fy 14) := by rw [Cpn, Cpo]; exact XG
  refine lv_aload_n hx hb dL_law_562 rfl (lv_at hl 1 rfl) ?_
  refine law_arg (v := 1) hx hb hX hbl hbA hS (lv_at hl 0 rfl) (lv_at hl 3 rfl) (by decide) hak1 exk1 dL_law_563 dL_law_564 dL_law_565 dL_law_566 dL_law_567 ?_
  refine law_arg (v := 2) hx hb hX hbl hbA hS (lv_at hl 0 rfl) (lv_at hl 3 rfl) (by decide) hak2 exk2 dL_law_568 dL_law_569 dL_law_570 dL_law_571 dL_law_572 ?_
  refine st_iU (va_runV (C := RX10) (As := [.int xk1, .int xk2]) (rest := []) ⟨hx, hb, hml, hown, hts⟩ (ct_X10_truly l D cI cY cJ cQ _ ad (nx 0) (nx 1) (nx 2) (nx 3) (fx 3) (fx 4) (fx 5) (fx 6) (fx 7) (fx 8) (fx 9) (fx 10) xk1 xk2 Xhna Xhnb XH XV) (cwV 2 hts gL_law_X10_truly rfl rfl rfl ⟨rfl, cdX10_truly⟩ ⟨Nat.le_of_ble_eq_true rfl, Nat.le_of_ble_eq_true rfl⟩) (cPreV (hP.sub [0, 14, 15, 16, 17, 18, 19, 20, 21, 22] rfl) hK (hD.sub [0, 14, 15, 16, 17, 18, 19, 20, 21, 22] (by decide +kernel) rfl) hN (ci := 10) (q0 := 0) rfl rfl) rfl rfl hl.1 rfl (lv_room (Nat.le_of_ble_eq_true rfl)) dL_law_573 ⟨Nat.le_of_ble_eq_true rfl, Nat.le_of_ble_eq_true rfl⟩) hP hD hS hA [0, 14, 15, 16, 17, 18, 19, 20, 21, 22] rfl (fun _ => rfl) (fun r3 u1 H locs hw2 => ?_)
  clear hP hS
  intro hP hS
  obtain ⟨pt_4, ps_5, ha_6, re_7⟩ := u1
  replace hw2 : r3.toInt = sp_truly (nx 3) (fx 3) (fx 4) (fx 5) (fx 6) xk1 xk2 := hw2
  refine lv_pop hx hb dL_law_576 rfl ?_
  have hPx : va_P D vwCl (wX ad rw sd cI cY cJ cQ nx (upR (upR (upR (upR fx 7 pt_4) 8 ps_5) 9 ha_6) 10 re_7) rs lo ++ wM md sd cI cY cJ cQ ny fy fl) H := hP
  have hDx : va_D (fun q : Nat => s.heap.size ≤ q) (wX ad rw sd cI cY cJ cQ nx (upR (upR (upR (upR fx 7 pt_4) 8 ps_5) 9 ha_6) 10 re_7) rs lo ++ wM md sd cI cY cJ cQ ny fy fl) := wXM_D hD
  have hP := hPx.comm
  have hD := hDx.comm
  refine lv_aload_n hx hb dL_law_577 rfl (lv_at hl 2 rfl) ?_
  refine law_arg (v := 1) hx hb hX hbl hbA hS (lv_at hl 0 rfl) (lv_at hl 3 rfl) (by decide) hak1 exk1 dL_law_578 dL_law_579 dL_law_580 dL_law_581 dL_law_582 ?_
  refine law_arg (v := 2) hx hb hX hbl hbA hS (lv_at hl 0 rfl) (lv_at hl 3 rfl) (by decide) hak2 exk2 dL_law_583 dL_law_584 dL_law_585 dL_law_586 dL_law_587 ?_
  refine st_iU (va_runV (C := RX11) (As := [.int xk1, .int xk2]) (rest := []) ⟨hx, hb, hml, hown, hts⟩ (ct_X11_truly l D cI cY cJ cQ _ md sd (ny 0) (ny 1) (ny 2) (ny 3) (ny 4) (ny 5) (ny 6) (ny 7) (ny 8) (ny 9) (ny 10) (ny 11) (ny 12) (ny 13) (ny 14) (ny 15) (ny 16) (ny 17) (ny 18) (ny 19) (ny 20) (ny 21) (ny 22) (fy 3) (fy 4) (fy 5) (fy 6) (fy 7) (fy 8) (fy 9) fl xk1 xk2 Mhna Mhnb (by assumption)) (cwV 2 hts gL_law_X11_truly rfl rfl rfl ⟨rfl, cdX11_truly⟩ ⟨Nat.le_of_ble_eq_true rfl, Nat.le_of_ble_eq_true rfl⟩) (cPreV (hP.sub [0, 4, 5, 6, 7, 8, 9, 10, 11] rfl) hK (hD.sub [0, 4, 5, 6, 7, 8, 9, 10, 11] (by decide +kernel) rfl) hN (ci := 11) (q0 := 0) rfl rfl) rfl rfl hl.1 rfl (lv_room (Nat.le_of_ble_eq_true rfl)) dL_law_588 ⟨Nat.le_of_ble_eq_true rfl, Nat.le_of_ble_eq_true rfl⟩) hP hD hS hA [0, 4, 5, 6, 7, 8, 9, 10, 11] rfl (fun _ => rfl) (fun r10 u8 H locs hw9 => ?_)
  clear hP hS
  intro hP hS
  obtain ⟨mh_11, mp_12, mt_13, mf_14⟩ := u8
  replace hw9 : r10.toInt = sm_truly (ny 2) (fy 3) (fy 4) (fy 5) (fy 6) xk1 xk2 := hw9
  rw [Chn, Cho, Chc, Chp, Chs, ← truly_eq (by omega) (by omega) XD XN XV] at hw9
  have e90 := i_of (hw2.trans hw9.symm)
  refine lv_pop hx hb dL_law_591 rfl ?_
  refine lv_goto (tgt := 1652) hx hb dL_law_592 (by decide) ?_
  have hPm : va_P D vwCl (wM md sd cI cY cJ cQ (upd ny 0 0) (upR (upR (upR fy 7 mh_11) 8 mp_12) 9 mt_13) mf_14 ++ wX ad rw sd cI cY cJ cQ nx (upR (upR (upR (upR fx 7 pt_4) 8 ps_5) 9 ha_6) 10 re_7) rs lo) H := hP
  have hDm : va_D (fun q : Nat => s.heap.size ≤ q) (wM md sd cI cY cJ cQ (upd ny 0 0) (upR (upR (upR fy 7 mh_11) 8 mp_12) 9 mt_13) mf_14 ++ wX ad rw sd cI cY cJ cQ nx (upR (upR (upR (upR fx 7 pt_4) 8 ps_5) 9 ha_6) 10 re_7) rs lo) := wMX_D hD
  exact kk nx (upR (upR (upR (upR fx 7 pt_4) 8 ps_5) 9 ha_6) 10 re_7) rs lo (upd ny 0 0) (upR (upR (upR fy 7 mh_11) 8 mp_12) 9 mt_13) mf_14 H locs ls ⟨Xhna, Xhnb, XH, XD, XV, XN, Xcna, Xcnb, XF, Xpna, Xpnb, XG, XO, XW, Xgna, Xgnb, XJ, Xlna, Xlnb, Xdla, Xdlb, Xana, Xanb, Xuna, Xunb, XU, Xlca, Xlcb, Xtna, Xtnb, XS, Mhna, Mhnb, MH, MS, Mmlna, Mmlnb, Mmtna, Mmtnb, Chn, Cho, Chc, Chp, Chs, Ccn, Cfo, Cwo, Cpn, Cpk, Cpf, Cpo, Cpd, Cpe, Cgn, Cgk, Cgs, Cgd, Cge, Can, Cak, Cah, Cay, Caz, Cun, Cuk, Cuy, Cuw, Cum, Clc, Clp, Cla, Clb, Caw, Ciw, Cln, Ctd, Cro, Cmtn, Cmtr, Cmst, Csh⟩ hPm.comm hDm.comm hS hl

set_option maxHeartbeats 4000000 in
set_option maxRecDepth 100000 in
theorem law_case_9 {p : Program} {l : Launch} {e : Env} {s : State} {m : MethodId} {below : List Frame} {meth : Method} {c : Code} {D : va_G} {cI cY cJ cQ : ClassId} {b L aK aV : Nat} {xs : Nat → Int32} {ad rw md : Nat → Nat} {sd i : Int32} {nx : Nat → Int32} {fx rs : Nat → Nat → Int32} {lo : Nat → Int64} {ny : Nat → Int32} {fy : Nat → Nat → Int32} {fl : Nat → Int64} {H : Heap} {locs : List Loc} {ls : Array Slot} (C0 : lawC p s m meth c b L xs D cI cY cJ cQ aK aV) (I : inv nx fx rs ny fy) (hP : va_P D vwCl (wX ad rw sd cI cY cJ cQ nx fx rs lo ++ wM md sd cI cY cJ cQ ny fy fl) H) (hD : va_D (fun q : Nat => s.heap.size ≤ q) (wX ad rw sd cI cY cJ cQ nx fx rs lo ++ wM md sd cI cY cJ cQ ny fy fl)) (hS : va_S (fun q : Nat => s.heap.size ≤ q) s.heap H locs) (hl : lv_has ls 4 [(0, .ref b), (1, .ref (ad 0)), (2, .ref (md 64)), (3, .int i)]) (hi1 : 1 ≤ i.toInt) (hi2 : i.toInt + 5 < L) (kk : ∀ (nx : Nat → Int32) (fx rs : Nat → Nat → Int32) (lo : Nat → Int64) (ny : Nat → Int32) (fy : Nat → Nat → Int32) (fl : Nat → Int64) (H : Heap) (locs : List Loc) (ls : Array Slot), inv nx fx rs ny fy → va_P D vwCl (wX ad rw sd cI cY cJ cQ nx fx rs lo ++ wM md sd cI cY cJ cQ ny fy fl) H → va_D (fun q : Nat => s.heap.size ≤ q) (wX ad rw sd cI cY cJ cQ nx fx rs lo ++ wM md sd cI cY cJ cQ ny fy fl) → va_S (fun q : Nat => s.heap.size ≤ q) s.heap H locs → lv_has ls 4 [(0, .ref b), (1, .ref (ad 0)), (2, .ref (md 64)), (3, .int i)] → W p l e room_1 s m #[Value.ref b] below meth c H locs 107 4890 (lw_Z below #[Value.ref b] s) (F0 m 1652 ls [])) : W p l e room_1 s m #[Value.ref b] below meth c H locs 107 4890 (lw_Z below #[Value.ref b] s) (F0 m 595 ls []) := by
  obtain ⟨C1, hK, hN, hT, hL⟩ := C0
  obtain ⟨hx, hb, hr, hml, hown, hts0, hX, hbl, hlocks, hgv⟩ := C1
  have hA : ∀ q : Nat, s.heap.size ≤ q → (fun q : Nat => s.heap.size ≤ q) q := fun _ h => h
  have hbA : ¬ (fun q : Nat => s.heap.size ≤ q) b := Nat.not_le.mpr hbl
  have hts : ∀ w ∈ wsL_law, w.before #[Value.ref b] s = true := fun w h => hts0 w (wsL_law_in w h)
  replace hown : s.vm.findClass RL = some m.cls := hown
  replace hb : c.code = cL_law := hb
  have hak1 : vp_in (i + 1) L := law_in hi1 hi2 hL (by decide)
  obtain ⟨xk1, exk1⟩ : ∃ y : Int32, y = xs (i + 1).toNatClampNeg := ⟨_, rfl⟩
  refine inv_el I ?_
  intro Xhna Xhnb XH XD XV XN Xcna Xcnb XF Xpna Xpnb XG XO XW Xgna Xgnb XJ Xlna Xlnb Xdla Xdlb Xana Xanb Xuna Xunb XU Xlca Xlcb Xtna Xtnb XS Mhna Mhnb MH MS Mmlna Mmlnb Mmtna Mmtnb Chn Cho Chc Chp Chs Ccn Cfo Cwo Cpn Cpk Cpf Cpo Cpd Cpe Cgn Cgk Cgs Cgd Cge Can Cak Cah Cay Caz Cun Cuk Cuy Cuw Cum Clc Clp Cla Clb Caw Ciw Cln Ctd Cro Cmtn Cmtr Cmst Csh
  have Tcn := i_eq Ccn
  have Tpn := i_eq Cpn
  have Tgn := i_eq Cgn
  have Tan := i_eq Can
  have Tun := i_eq Cun
  have Tlc := i_eq Clc
  have Tln := i_eq Cln
  have Thn := i_eq Chn
  have MXV : okV (ny 2) (fy 5) := by rw [Chn, Chp]; exact XV
  have MXF : okF (ny 3) (fy 10) := by rw [Ccn, Cfo]; exact XF
  have MXG : okG (ny 4) (fy 14) := by rw [Cpn, Cpo]; exact XG
  refine lv_aload_n hx hb dL_law_595 rfl (lv_at hl 1 rfl) ?_
  refine law_arg (v := 1) hx hb hX hbl hbA hS (lv_at hl 0 rfl) (lv_at hl 3 rfl) (by decide) hak1 exk1 dL_law_596 dL_law_597 dL_law_598 dL_law_599 dL_law_600 ?_
  refine st_iU (va_runV (C := RX10) (As := [.int xk1]) (rest := []) ⟨hx, hb, hml, hown, hts⟩ (ct_X10_rings l D cI cY cJ cQ _ ad (nx 0) (nx 1) (nx 2) (nx 3) (fx 3) (fx 4) (fx 5) (fx 6) (fx 7) (fx 8) (fx 9) (fx 10) xk1 Xhna Xhnb XH XV) (cwV 1 hts gL_law_X10_rings rfl rfl rfl ⟨rfl, cdX10_rings⟩ ⟨Nat.le_of_ble_eq_true rfl, Nat.le_of_ble_eq_true rfl⟩) (cPreV (hP.sub [0, 14, 15, 16, 17, 18, 19, 20, 21, 22] rfl) hK (hD.sub [0, 14, 15, 16, 17, 18, 19, 20, 21, 22] (by decide +kernel) rfl) hN (ci := 10) (q0 := 0) rfl rfl) rfl rfl hl.1 rfl (lv_room (Nat.le_of_ble_eq_true rfl)) dL_law_601 ⟨Nat.le_of_ble_eq_true rfl, Nat.le_of_ble_eq_true rfl⟩) hP hD hS hA [0, 14, 15, 16, 17, 18, 19, 20, 21, 22] rfl (fun _ => rfl) (fun r3 u1 H locs hw2 => ?_)
  clear hP hS
  intro hP hS
  obtain ⟨pt_4, ps_5, ha_6, re_7⟩ := u1
  replace hw2 : sp_rings (nx 3) (fx 3) (fx 4) (fx 5) (fx 6) xk1 r3 := hw2
  refine lv_pop hx hb dL_law_604 rfl ?_
  have hPx : va_P D vwCl (wX ad rw sd cI cY cJ cQ nx (upR (upR (upR (upR fx 7 pt_4) 8 ps_5) 9 ha_6) 10 re_7) rs lo ++ wM md sd cI cY cJ cQ ny fy fl) H := hP
  have hDx : va_D (fun q : Nat => s.heap.size ≤ q) (wX ad rw sd cI cY cJ cQ nx (upR (upR (upR (upR fx 7 pt_4) 8 ps_5) 9 ha_6) 10 re_7) rs lo ++ wM md sd cI cY cJ cQ ny fy fl) := wXM_D hD
  have hP := hPx.comm
  have hD := hDx.comm
  refine lv_aload_n hx hb dL_law_605 rfl (lv_at hl 2 rfl) ?_
  refine law_arg (v := 1) hx hb hX hbl hbA hS (lv_at hl 0 rfl) (lv_at hl 3 rfl) (by decide) hak1 exk1 dL_law_606 dL_law_607 dL_law_608 dL_law_609 dL_law_610 ?_
  refine st_iU (va_runV (C := RX11) (As := [.int xk1]) (rest := []) ⟨hx, hb, hml, hown, hts⟩ (ct_X11_rings l D cI cY cJ cQ _ md sd (ny 0) (ny 1) (ny 2) (ny 3) (ny 4) (ny 5) (ny 6) (ny 7) (ny 8) (ny 9) (ny 10) (ny 11) (ny 12) (ny 13) (ny 14) (ny 15) (ny 16) (ny 17) (ny 18) (ny 19) (ny 20) (ny 21) (ny 22) (fy 3) (fy 4) (fy 5) (fy 6) (fy 7) xk1 Mhna Mhnb (by assumption)) (cwV 1 hts gL_law_X11_rings rfl rfl rfl ⟨rfl, cdX11_rings⟩ ⟨Nat.le_of_ble_eq_true rfl, Nat.le_of_ble_eq_true rfl⟩) (cPreV (hP.sub [0, 4, 5, 6, 7, 8] rfl) hK (hD.sub [0, 4, 5, 6, 7, 8] (by decide +kernel) rfl) hN (ci := 11) (q0 := 0) rfl rfl) rfl rfl hl.1 rfl (lv_room (Nat.le_of_ble_eq_true rfl)) dL_law_611 ⟨Nat.le_of_ble_eq_true rfl, Nat.le_of_ble_eq_true rfl⟩) hP hD hS hA [0, 4, 5, 6, 7, 8] rfl (fun _ => rfl) (fun r10 u8 H locs hw9 => ?_)
  clear hP hS
  intro hP hS
  replace hw9 : sm_rings (ny 2) (fy 3) (fy 4) (fy 5) (fy 6) xk1 r10 := hw9
  rw [Chn, Cho, Chc, Chp, Chs] at hw9
  have e90 := rings_eq (by omega) (by omega) XD XN XV hw2 hw9
  refine lv_pop hx hb dL_law_614 rfl ?_
  refine lv_goto (tgt := 1652) hx hb dL_law_615 (by decide) ?_
  have hPm : va_P D vwCl (wM md sd cI cY cJ cQ (upd ny 0 0) (upR fy 7 u8) fl ++ wX ad rw sd cI cY cJ cQ nx (upR (upR (upR (upR fx 7 pt_4) 8 ps_5) 9 ha_6) 10 re_7) rs lo) H := hP
  have hDm : va_D (fun q : Nat => s.heap.size ≤ q) (wM md sd cI cY cJ cQ (upd ny 0 0) (upR fy 7 u8) fl ++ wX ad rw sd cI cY cJ cQ nx (upR (upR (upR (upR fx 7 pt_4) 8 ps_5) 9 ha_6) 10 re_7) rs lo) := wMX_D hD
  exact kk nx (upR (upR (upR (upR fx 7 pt_4) 8 ps_5) 9 ha_6) 10 re_7) rs lo (upd ny 0 0) (upR fy 7 u8) fl H locs ls ⟨Xhna, Xhnb, XH, XD, XV, XN, Xcna, Xcnb, XF, Xpna, Xpnb, XG, XO, XW, Xgna, Xgnb, XJ, Xlna, Xlnb, Xdla, Xdlb, Xana, Xanb, Xuna, Xunb, XU, Xlca, Xlcb, Xtna, Xtnb, XS, Mhna, Mhnb, MH, MS, Mmlna, Mmlnb, Mmtna, Mmtnb, Chn, Cho, Chc, Chp, Chs, Ccn, Cfo, Cwo, Cpn, Cpk, Cpf, Cpo, Cpd, Cpe, Cgn, Cgk, Cgs, Cgd, Cge, Can, Cak, Cah, Cay, Caz, Cun, Cuk, Cuy, Cuw, Cum, Clc, Clp, Cla, Clb, Caw, Ciw, Cln, Ctd, Cro, Cmtn, Cmtr, Cmst, Csh⟩ hPm.comm hDm.comm hS hl

set_option maxHeartbeats 4000000 in
set_option maxRecDepth 100000 in
theorem law_case_10 {p : Program} {l : Launch} {e : Env} {s : State} {m : MethodId} {below : List Frame} {meth : Method} {c : Code} {D : va_G} {cI cY cJ cQ : ClassId} {b L aK aV : Nat} {xs : Nat → Int32} {ad rw md : Nat → Nat} {sd i : Int32} {nx : Nat → Int32} {fx rs : Nat → Nat → Int32} {lo : Nat → Int64} {ny : Nat → Int32} {fy : Nat → Nat → Int32} {fl : Nat → Int64} {H : Heap} {locs : List Loc} {ls : Array Slot} (C0 : lawC p s m meth c b L xs D cI cY cJ cQ aK aV) (I : inv nx fx rs ny fy) (hP : va_P D vwCl (wX ad rw sd cI cY cJ cQ nx fx rs lo ++ wM md sd cI cY cJ cQ ny fy fl) H) (hD : va_D (fun q : Nat => s.heap.size ≤ q) (wX ad rw sd cI cY cJ cQ nx fx rs lo ++ wM md sd cI cY cJ cQ ny fy fl)) (hS : va_S (fun q : Nat => s.heap.size ≤ q) s.heap H locs) (hl : lv_has ls 4 [(0, .ref b), (1, .ref (ad 0)), (2, .ref (md 64)), (3, .int i)]) (hi1 : 1 ≤ i.toInt) (hi2 : i.toInt + 5 < L) (kk : ∀ (nx : Nat → Int32) (fx rs : Nat → Nat → Int32) (lo : Nat → Int64) (ny : Nat → Int32) (fy : Nat → Nat → Int32) (fl : Nat → Int64) (H : Heap) (locs : List Loc) (ls : Array Slot), inv nx fx rs ny fy → va_P D vwCl (wX ad rw sd cI cY cJ cQ nx fx rs lo ++ wM md sd cI cY cJ cQ ny fy fl) H → va_D (fun q : Nat => s.heap.size ≤ q) (wX ad rw sd cI cY cJ cQ nx fx rs lo ++ wM md sd cI cY cJ cQ ny fy fl) → va_S (fun q : Nat => s.heap.size ≤ q) s.heap H locs → lv_has ls 4 [(0, .ref b), (1, .ref (ad 0)), (2, .ref (md 64)), (3, .int i)] → W p l e room_1 s m #[Value.ref b] below meth c H locs 107 4890 (lw_Z below #[Value.ref b] s) (F0 m 1652 ls [])) : W p l e room_1 s m #[Value.ref b] below meth c H locs 107 4890 (lw_Z below #[Value.ref b] s) (F0 m 618 ls []) := by
  obtain ⟨C1, hK, hN, hT, hL⟩ := C0
  obtain ⟨hx, hb, hr, hml, hown, hts0, hX, hbl, hlocks, hgv⟩ := C1
  have hA : ∀ q : Nat, s.heap.size ≤ q → (fun q : Nat => s.heap.size ≤ q) q := fun _ h => h
  have hbA : ¬ (fun q : Nat => s.heap.size ≤ q) b := Nat.not_le.mpr hbl
  have hts : ∀ w ∈ wsL_law, w.before #[Value.ref b] s = true := fun w h => hts0 w (wsL_law_in w h)
  replace hown : s.vm.findClass RL = some m.cls := hown
  replace hb : c.code = cL_law := hb
  have hak1 : vp_in (i + 1) L := law_in hi1 hi2 hL (by decide)
  obtain ⟨xk1, exk1⟩ : ∃ y : Int32, y = xs (i + 1).toNatClampNeg := ⟨_, rfl⟩
  have hak2 : vp_in (i + 2) L := law_in hi1 hi2 hL (by decide)
  obtain ⟨xk2, exk2⟩ : ∃ y : Int32, y = xs (i + 2).toNatClampNeg := ⟨_, rfl⟩
  refine inv_el I ?_
  intro Xhna Xhnb XH XD XV XN Xcna Xcnb XF Xpna Xpnb XG XO XW Xgna Xgnb XJ Xlna Xlnb Xdla Xdlb Xana Xanb Xuna Xunb XU Xlca Xlcb Xtna Xtnb XS Mhna Mhnb MH MS Mmlna Mmlnb Mmtna Mmtnb Chn Cho Chc Chp Chs Ccn Cfo Cwo Cpn Cpk Cpf Cpo Cpd Cpe Cgn Cgk Cgs Cgd Cge Can Cak Cah Cay Caz Cun Cuk Cuy Cuw Cum Clc Clp Cla Clb Caw Ciw Cln Ctd Cro Cmtn Cmtr Cmst Csh
  have Tcn := i_eq Ccn
  have Tpn := i_eq Cpn
  have Tgn := i_eq Cgn
  have Tan := i_eq Can
  have Tun := i_eq Cun
  have Tlc := i_eq Clc
  have Tln := i_eq Cln
  refine lv_aload_n hx hb dL_law_618 rfl (lv_at hl 1 rfl) ?_
  refine law_arg (v := 1) hx hb hX hbl hbA hS (lv_at hl 0 rfl) (lv_at hl 3 rfl) (by decide) hak1 exk1 dL_law_619 dL_law_620 dL_law_621 dL_law_622 dL_law_623 ?_
  refine law_arg (v := 2) hx hb hX hbl hbA hS (lv_at hl 0 rfl) (lv_at hl 3 rfl) (by decide) hak2 exk2 dL_law_624 dL_law_625 dL_law_626 dL_law_627 dL_law_628 ?_
  refine st_iU (va_runV (C := RX10) (As := [.int xk1, .int xk2]) (rest := []) ⟨hx, hb, hml, hown, hts⟩ (ct_X10_crate l D cI cY cJ cQ _ ad (nx 0) (nx 1) (nx 2) (nx 4) (fx 11) (fx 12) xk1 xk2 Xcna Xcnb) (cwV 2 hts gL_law_X10_crate rfl rfl rfl ⟨rfl, cdX10_crate⟩ ⟨Nat.le_of_ble_eq_true rfl, Nat.le_of_ble_eq_true rfl⟩) (cPreV (hP.sub [0, 23, 24, 25] rfl) hK (hD.sub [0, 23, 24, 25] (by decide +kernel) rfl) hN (ci := 10) (q0 := 0) rfl rfl) rfl rfl hl.1 rfl (lv_room (Nat.le_of_ble_eq_true rfl)) dL_law_629 ⟨Nat.le_of_ble_eq_true rfl, Nat.le_of_ble_eq_true rfl⟩) hP hD hS hA [0, 23, 24, 25] rfl (fun _ => rfl) (fun r3 u1 H locs hw2 => ?_)
  clear hP hS
  intro hP hS
  obtain ⟨cn_4, fo_5, wo_6⟩ := u1
  replace hw2 : (r3, (cn_4, fo_5, wo_6)) = sp_crate (nx 4) (fx 11) (fx 12) xk1 xk2 := hw2
  obtain ⟨hw2a, hw2b⟩ := sp_crate_ok hw2 (by omega) (by omega)
  have hw2f := sp_crate_okF hw2 (by omega) (by omega) XF
  refine lv_pop hx hb dL_law_632 rfl ?_
  have hPx : va_P D vwCl (wX ad rw sd cI cY cJ cQ (upd nx 4 cn_4) (upR (upR fx 11 fo_5) 12 wo_6) rs lo ++ wM md sd cI cY cJ cQ ny fy fl) H := hP
  have hDx : va_D (fun q : Nat => s.heap.size ≤ q) (wX ad rw sd cI cY cJ cQ (upd nx 4 cn_4) (upR (upR fx 11 fo_5) 12 wo_6) rs lo ++ wM md sd cI cY cJ cQ ny fy fl) := wXM_D hD
  have hP := hPx.comm
  have hD := hDx.comm
  refine lv_aload_n hx hb dL_law_633 rfl (lv_at hl 2 rfl) ?_
  refine law_arg (v := 1) hx hb hX hbl hbA hS (lv_at hl 0 rfl) (lv_at hl 3 rfl) (by decide) hak1 exk1 dL_law_634 dL_law_635 dL_law_636 dL_law_637 dL_law_638 ?_
  refine law_arg (v := 2) hx hb hX hbl hbA hS (lv_at hl 0 rfl) (lv_at hl 3 rfl) (by decide) hak2 exk2 dL_law_639 dL_law_640 dL_law_641 dL_law_642 dL_law_643 ?_
  refine st_iU (va_runV (C := RX11) (As := [.int xk1, .int xk2]) (rest := []) ⟨hx, hb, hml, hown, hts⟩ (ct_X11_crate l D cI cY cJ cQ _ md sd (ny 0) (ny 1) (ny 2) (ny 3) (ny 4) (ny 5) (ny 6) (ny 7) (ny 8) (ny 9) (ny 10) (ny 11) (ny 12) (ny 13) (ny 14) (ny 15) (ny 16) (ny 17) (ny 18) (ny 19) (ny 20) (ny 21) (ny 22) (fy 10) (fy 11) xk1 xk2 (by omega) (by omega)) (cwV 2 hts gL_law_X11_crate rfl rfl rfl ⟨rfl, cdX11_crate⟩ ⟨Nat.le_of_ble_eq_true rfl, Nat.le_of_ble_eq_true rfl⟩) (cPreV (hP.sub [0, 12, 13] rfl) hK (hD.sub [0, 12, 13] (by decide +kernel) rfl) hN (ci := 11) (q0 := 0) rfl rfl) rfl rfl hl.1 rfl (lv_room (Nat.le_of_ble_eq_true rfl)) dL_law_644 ⟨Nat.le_of_ble_eq_true rfl, Nat.le_of_ble_eq_true rfl⟩) hP hD hS hA [0, 12, 13] rfl (fun _ => rfl) (fun r9 u7 H locs hw8 => ?_)
  clear hP hS
  intro hP hS
  obtain ⟨cn_10, fo_11, wo_12⟩ := u7
  replace hw8 : (r9, (cn_10, fo_11, wo_12)) = sp_crate (ny 3) (fy 10) (fy 11) xk1 xk2 := hw8
  rw [Ccn, Cfo, Cwo] at hw8
  have e9 := hw2.trans hw8.symm
  simp only [Prod.mk.injEq] at e9
  obtain ⟨e90, e9cn, e9fo, e9wo⟩ := e9
  refine lv_pop hx hb dL_law_647 rfl ?_
  refine lv_goto (tgt := 1652) hx hb dL_law_648 (by decide) ?_
  have hPm : va_P D vwCl (wM md sd cI cY cJ cQ (upd (upd ny 0 0) 3 cn_10) (upR (upR fy 10 fo_11) 11 wo_12) fl ++ wX ad rw sd cI cY cJ cQ (upd nx 4 cn_4) (upR (upR fx 11 fo_5) 12 wo_6) rs lo) H := hP
  have hDm : va_D (fun q : Nat => s.heap.size ≤ q) (wM md sd cI cY cJ cQ (upd (upd ny 0 0) 3 cn_10) (upR (upR fy 10 fo_11) 11 wo_12) fl ++ wX ad rw sd cI cY cJ cQ (upd nx 4 cn_4) (upR (upR fx 11 fo_5) 12 wo_6) rs lo) := wMX_D hD
  exact kk (upd nx 4 cn_4) (upR (upR fx 11 fo_5) 12 wo_6) rs lo (upd (upd ny 0 0) 3 cn_10) (upR (upR fy 10 fo_11) 11 wo_12) fl H locs ls ⟨Xhna, Xhnb, XH, XD, XV, XN, (by show 0 ≤ (cn_4).toInt; omega), (by show (cn_4).toInt ≤ 12; omega), (show okF (cn_4) (fo_5) by assumption), Xpna, Xpnb, XG, XO, XW, Xgna, Xgnb, XJ, Xlna, Xlnb, Xdla, Xdlb, Xana, Xanb, Xuna, Xunb, XU, Xlca, Xlcb, Xtna, Xtnb, XS, Mhna, Mhnb, MH, MS, Mmlna, Mmlnb, Mmtna, Mmtnb, Chn, Cho, Chc, Chp, Chs, (show (cn_10) = (cn_4) from e9cn.symm), (show (fo_11) = (fo_5) from e9fo.symm), (show (wo_12) = (wo_6) from e9wo.symm), Cpn, Cpk, Cpf, Cpo, Cpd, Cpe, Cgn, Cgk, Cgs, Cgd, Cge, Can, Cak, Cah, Cay, Caz, Cun, Cuk, Cuy, Cuw, Cum, Clc, Clp, Cla, Clb, Caw, Ciw, Cln, Ctd, Cro, Cmtn, Cmtr, Cmst, Csh⟩ hPm.comm hDm.comm hS hl

set_option maxHeartbeats 4000000 in
set_option maxRecDepth 100000 in
theorem law_case_11 {p : Program} {l : Launch} {e : Env} {s : State} {m : MethodId} {below : List Frame} {meth : Method} {c : Code} {D : va_G} {cI cY cJ cQ : ClassId} {b L aK aV : Nat} {xs : Nat → Int32} {ad rw md : Nat → Nat} {sd i : Int32} {nx : Nat → Int32} {fx rs : Nat → Nat → Int32} {lo : Nat → Int64} {ny : Nat → Int32} {fy : Nat → Nat → Int32} {fl : Nat → Int64} {H : Heap} {locs : List Loc} {ls : Array Slot} (C0 : lawC p s m meth c b L xs D cI cY cJ cQ aK aV) (I : inv nx fx rs ny fy) (hP : va_P D vwCl (wX ad rw sd cI cY cJ cQ nx fx rs lo ++ wM md sd cI cY cJ cQ ny fy fl) H) (hD : va_D (fun q : Nat => s.heap.size ≤ q) (wX ad rw sd cI cY cJ cQ nx fx rs lo ++ wM md sd cI cY cJ cQ ny fy fl)) (hS : va_S (fun q : Nat => s.heap.size ≤ q) s.heap H locs) (hl : lv_has ls 4 [(0, .ref b), (1, .ref (ad 0)), (2, .ref (md 64)), (3, .int i)]) (hi1 : 1 ≤ i.toInt) (hi2 : i.toInt + 5 < L) (kk : ∀ (nx : Nat → Int32) (fx rs : Nat → Nat → Int32) (lo : Nat → Int64) (ny : Nat → Int32) (fy : Nat → Nat → Int32) (fl : Nat → Int64) (H : Heap) (locs : List Loc) (ls : Array Slot), inv nx fx rs ny fy → va_P D vwCl (wX ad rw sd cI cY cJ cQ nx fx rs lo ++ wM md sd cI cY cJ cQ ny fy fl) H → va_D (fun q : Nat => s.heap.size ≤ q) (wX ad rw sd cI cY cJ cQ nx fx rs lo ++ wM md sd cI cY cJ cQ ny fy fl) → va_S (fun q : Nat => s.heap.size ≤ q) s.heap H locs → lv_has ls 4 [(0, .ref b), (1, .ref (ad 0)), (2, .ref (md 64)), (3, .int i)] → W p l e room_1 s m #[Value.ref b] below meth c H locs 107 4890 (lw_Z below #[Value.ref b] s) (F0 m 1652 ls [])) : W p l e room_1 s m #[Value.ref b] below meth c H locs 107 4890 (lw_Z below #[Value.ref b] s) (F0 m 651 ls []) := by
  obtain ⟨C1, hK, hN, hT, hL⟩ := C0
  obtain ⟨hx, hb, hr, hml, hown, hts0, hX, hbl, hlocks, hgv⟩ := C1
  have hA : ∀ q : Nat, s.heap.size ≤ q → (fun q : Nat => s.heap.size ≤ q) q := fun _ h => h
  have hbA : ¬ (fun q : Nat => s.heap.size ≤ q) b := Nat.not_le.mpr hbl
  have hts : ∀ w ∈ wsL_law, w.before #[Value.ref b] s = true := fun w h => hts0 w (wsL_law_in w h)
  replace hown : s.vm.findClass RL = some m.cls := hown
  replace hb : c.code = cL_law := hb
  have hak1 : vp_in (i + 1) L := law_in hi1 hi2 hL (by decide)
  obtain ⟨xk1, exk1⟩ : ∃ y : Int32, y = xs (i + 1).toNatClampNeg := ⟨_, rfl⟩
  have hak2 : vp_in (i + 2) L := law_in hi1 hi2 hL (by decide)
  obtain ⟨xk2, exk2⟩ : ∃ y : Int32, y = xs (i + 2).toNatClampNeg := ⟨_, rfl⟩
  have hak3 : vp_in (i + 3) L := law_in hi1 hi2 hL (by decide)
  obtain ⟨xk3, exk3⟩ : ∃ y : Int32, y = xs (i + 3).toNatClampNeg := ⟨_, rfl⟩
  have hak4 : vp_in (i + 4) L := law_in hi1 hi2 hL (by decide)
  obtain ⟨xk4, exk4⟩ : ∃ y : Int32, y = xs (i + 4).toNatClampNeg := ⟨_, rfl⟩
  have hak5 : vp_in (i + 5) L := law_in hi1 hi2 hL (by decide)
  obtain ⟨xk5, exk5⟩ : ∃ y : Int32, y = xs (i + 5).toNatClampNeg := ⟨_, rfl⟩
  refine inv_el I ?_
  intro Xhna Xhnb XH XD XV XN Xcna Xcnb XF Xpna Xpnb XG XO XW Xgna Xgnb XJ Xlna Xlnb Xdla Xdlb Xana Xanb Xuna Xunb XU Xlca Xlcb Xtna Xtnb XS Mhna Mhnb MH MS Mmlna Mmlnb Mmtna Mmtnb Chn Cho Chc Chp Chs Ccn Cfo Cwo Cpn Cpk Cpf Cpo Cpd Cpe Cgn Cgk Cgs Cgd Cge Can Cak Cah Cay Caz Cun Cuk Cuy Cuw Cum Clc Clp Cla Clb Caw Ciw Cln Ctd Cro Cmtn Cmtr Cmst Csh
  have Tcn := i_eq Ccn
  have Tpn := i_eq Cpn
  have Tgn := i_eq Cgn
  have Tan := i_eq Can
  have Tun := i_eq Cun
  have Tlc := i_eq Clc
  have Tln := i_eq Cln
  refine lv_aload_n hx hb dL_law_651 rfl (lv_at hl 1 rfl) ?_
  refine law_arg (v := 1) hx hb hX hbl hbA hS (lv_at hl 0 rfl) (lv_at hl 3 rfl) (by decide) hak1 exk1 dL_law_652 dL_law_653 dL_law_654 dL_law_655 dL_law_656 ?_
  refine law_arg (v := 2) hx hb hX hbl hbA hS (lv_at hl 0 rfl) (lv_at hl 3 rfl) (by decide) hak2 exk2 dL_law_657 dL_law_658 dL_law_659 dL_law_660 dL_law_661 ?_
  refine law_arg (v := 3) hx hb hX hbl hbA hS (lv_at hl 0 rfl) (lv_at hl 3 rfl) (by decide) hak3 exk3 dL_law_662 dL_law_663 dL_law_664 dL_law_665 dL_law_666 ?_
  refine law_arg (v := 4) hx hb hX hbl hbA hS (lv_at hl 0 rfl) (lv_at hl 3 rfl) (by decide) hak4 exk4 dL_law_667 dL_law_668 dL_law_669 dL_law_670 dL_law_671 ?_
  refine law_arg (v := 5) hx hb hX hbl hbA hS (lv_at hl 0 rfl) (lv_at hl 3 rfl) (by decide) hak5 exk5 dL_law_672 dL_law_673 dL_law_674 dL_law_675 dL_law_676 ?_
  refine st_iU (va_runV (C := RX10) (As := [.int xk1, .int xk2, .int xk3, .int xk4, .int xk5]) (rest := []) ⟨hx, hb, hml, hown, hts⟩ (ct_X10_paper l D cI cY cJ cQ _ ad (nx 0) (nx 1) (nx 2) (nx 4) (nx 5) (fx 16) (fx 17) (fx 18) (fx 19) (fx 20) (fx 21) xk1 xk2 xk3 xk4 xk5 Xpna Xpnb XO) (cwV 5 hts gL_law_X10_paper rfl rfl rfl ⟨rfl, cdX10_paper⟩ ⟨Nat.le_of_ble_eq_true rfl, Nat.le_of_ble_eq_true rfl⟩) (cPreV (hP.sub [0, 23, 29, 30, 31, 32, 33, 34, 35] rfl) hK (hD.sub [0, 23, 29, 30, 31, 32, 33, 34, 35] (by decide +kernel) rfl) hN (ci := 10) (q0 := 0) rfl rfl) rfl rfl hl.1 rfl (lv_room (Nat.le_of_ble_eq_true rfl)) dL_law_677 ⟨Nat.le_of_ble_eq_true rfl, Nat.le_of_ble_eq_true rfl⟩) hP hD hS hA [0, 23, 29, 30, 31, 32, 33, 34, 35] rfl (fun _ => rfl) (fun r3 u1 H locs hw2 => ?_)
  clear hP hS
  intro hP hS
  obtain ⟨pn_4, pk_5, pf_6, po_7, pd_8, pe_9, pr_10⟩ := u1
  replace hw2 : (r3, pn_4, pk_5, pf_6, po_7, pd_8, pe_9) = sp_paper (nx 5) (fx 16) (fx 17) (fx 18) (fx 19) (fx 20) (nx 4) xk1 xk2 xk3 xk4 xk5 ∧ okO pn_4 pr_10 ∧ (okW (nx 5) (fx 21) (fx 19) (fx 20) → okW pn_4 pr_10 pd_8 pe_9) := hw2
  obtain ⟨hw2, hw2o, hw2q⟩ := hw2
  replace hw2q := hw2q XW
  obtain ⟨hw2a, hw2b⟩ := sp_paper_ok hw2 (by omega) (by omega)
  have hw2f := sp_paper_okG hw2 (by omega) (by omega) XG
  refine lv_pop hx hb dL_law_680 rfl ?_
  have hPx : va_P D vwCl (wX ad rw sd cI cY cJ cQ (upd nx 5 pn_4) (upR (upR (upR (upR (upR (upR fx 16 pk_5) 17 pf_6) 18 po_7) 19 pd_8) 20 pe_9) 21 pr_10) rs lo ++ wM md sd cI cY cJ cQ ny fy fl) H := hP
  have hDx : va_D (fun q : Nat => s.heap.size ≤ q) (wX ad rw sd cI cY cJ cQ (upd nx 5 pn_4) (upR (upR (upR (upR (upR (upR fx 16 pk_5) 17 pf_6) 18 po_7) 19 pd_8) 20 pe_9) 21 pr_10) rs lo ++ wM md sd cI cY cJ cQ ny fy fl) := wXM_D hD
  have hP := hPx.comm
  have hD := hDx.comm
  refine lv_aload_n hx hb dL_law_681 rfl (lv_at hl 2 rfl) ?_
  refine law_arg (v := 1) hx hb hX hbl hbA hS (lv_at hl 0 rfl) (lv_at hl 3 rfl) (by decide) hak1 exk1 dL_law_682 dL_law_683 dL_law_684 dL_law_685 dL_law_686 ?_
  refine law_arg (v := 2) hx hb hX hbl hbA hS (lv_at hl 0 rfl) (lv_at hl 3 rfl) (by decide) hak2 exk2 dL_law_687 dL_law_688 dL_law_689 dL_law_690 dL_law_691 ?_
  refine law_arg (v := 3) hx hb hX hbl hbA hS (lv_at hl 0 rfl) (lv_at hl 3 rfl) (by decide) hak3 exk3 dL_law_692 dL_law_693 dL_law_694 dL_law_695 dL_law_696 ?_
  refine law_arg (v := 4) hx hb hX hbl hbA hS (lv_at hl 0 rfl) (lv_at hl 3 rfl) (by decide) hak4 exk4 dL_law_697 dL_law_698 dL_law_699 dL_law_700 dL_law_701 ?_
  refine law_arg (v := 5) hx hb hX hbl hbA hS (lv_at hl 0 rfl) (lv_at hl 3 rfl) (by decide) hak5 exk5 dL_law_702 dL_law_703 dL_law_704 dL_law_705 dL_law_706 ?_
  refine st_iU (va_runV (C := RX11) (As := [.int xk1, .int xk2, .int xk3, .int xk4, .int xk5]) (rest := []) ⟨hx, hb, hml, hown, hts⟩ (ct_X11_paper l D cI cY cJ cQ _ md sd (ny 0) (ny 1) (ny 2) (ny 3) (ny 4) (ny 5) (ny 6) (ny 7) (ny 8) (ny 9) (ny 10) (ny 11) (ny 12) (ny 13) (ny 14) (ny 15) (ny 16) (ny 17) (ny 18) (ny 19) (ny 20) (ny 21) (ny 22) (fy 12) (fy 13) (fy 14) (fy 15) (fy 16) xk1 xk2 xk3 xk4 xk5 (by omega) (by omega) (by omega) (by omega)) (cwV 5 hts gL_law_X11_paper rfl rfl rfl ⟨rfl, cdX11_paper⟩ ⟨Nat.le_of_ble_eq_true rfl, Nat.le_of_ble_eq_true rfl⟩) (cPreV (hP.sub [0, 14, 15, 16, 17, 18] rfl) hK (hD.sub [0, 14, 15, 16, 17, 18] (by decide +kernel) rfl) hN (ci := 11) (q0 := 0) rfl rfl) rfl rfl hl.1 rfl (lv_room (Nat.le_of_ble_eq_true rfl)) dL_law_707 ⟨Nat.le_of_ble_eq_true rfl, Nat.le_of_ble_eq_true rfl⟩) hP hD hS hA [0, 14, 15, 16, 17, 18] rfl (fun _ => rfl) (fun r13 u11 H locs hw12 => ?_)
  clear hP hS
  intro hP hS
  obtain ⟨pn_14, pk_15, pf_16, po_17, pd_18, pe_19⟩ := u11
  replace hw12 : (r13, (pn_14, pk_15, pf_16, po_17, pd_18, pe_19)) = sp_paper (ny 4) (fy 12) (fy 13) (fy 14) (fy 15) (fy 16) (ny 3) xk1 xk2 xk3 xk4 xk5 := hw12
  rw [Cpn, Cpk, Cpf, Cpo, Cpd, Cpe, Ccn] at hw12
  have e9 := hw2.trans hw12.symm
  simp only [Prod.mk.injEq] at e9
  obtain ⟨e90, e9pn, e9pk, e9pf, e9po, e9pd, e9pe⟩ := e9
  refine lv_pop hx hb dL_law_710 rfl ?_
  refine lv_goto (tgt := 1652) hx hb dL_law_711 (by decide) ?_
  have hPm : va_P D vwCl (wM md sd cI cY cJ cQ (upd (upd ny 0 0) 4 pn_14) (upR (upR (upR (upR (upR fy 12 pk_15) 13 pf_16) 14 po_17) 15 pd_18) 16 pe_19) fl ++ wX ad rw sd cI cY cJ cQ (upd nx 5 pn_4) (upR (upR (upR (upR (upR (upR fx 16 pk_5) 17 pf_6) 18 po_7) 19 pd_8) 20 pe_9) 21 pr_10) rs lo) H := hP
  have hDm : va_D (fun q : Nat => s.heap.size ≤ q) (wM md sd cI cY cJ cQ (upd (upd ny 0 0) 4 pn_14) (upR (upR (upR (upR (upR fy 12 pk_15) 13 pf_16) 14 po_17) 15 pd_18) 16 pe_19) fl ++ wX ad rw sd cI cY cJ cQ (upd nx 5 pn_4) (upR (upR (upR (upR (upR (upR fx 16 pk_5) 17 pf_6) 18 po_7) 19 pd_8) 20 pe_9) 21 pr_10) rs lo) := wMX_D hD
  exact kk (upd nx 5 pn_4) (upR (upR (upR (upR (upR (upR fx 16 pk_5) 17 pf_6) 18 po_7) 19 pd_8) 20 pe_9) 21 pr_10) rs lo (upd (upd ny 0 0) 4 pn_14) (upR (upR (upR (upR (upR fy 12 pk_15) 13 pf_16) 14 po_17) 15 pd_18) 16 pe_19) fl H locs ls ⟨Xhna, Xhnb, XH, XD, XV, XN, Xcna, Xcnb, XF, (by show 0 ≤ (pn_4).toInt; omega), (by show (pn_4).toInt ≤ 40; omega), (show okG (pn_4) (po_7) by assumption), (show okO (pn_4) (pr_10) by assumption), (show okW (pn_4) (pr_10) (pd_8) (pe_9) by assumption), Xgna, Xgnb, XJ, Xlna, Xlnb, Xdla, Xdlb, Xana, Xanb, Xuna, Xunb, XU, Xlca, Xlcb, Xtna, Xtnb, XS, Mhna, Mhnb, MH, MS, Mmlna, Mmlnb, Mmtna, Mmtnb, Chn, Cho, Chc, Chp, Chs, Ccn, Cfo, Cwo, (show (pn_14) = (pn_4) from e9pn.symm), (show (pk_15) = (pk_5) from e9pk.symm), (show (pf_16) = (pf_6) from e9pf.symm), (show (po_17) = (po_7) from e9po.symm), (show (pd_18) = (pd_8) from e9pd.symm), (show (pe_19) = (pe_9) from e9pe.symm), Cgn, Cgk, Cgs, Cgd, Cge, Can, Cak, Cah, Cay, Caz, Cun, Cuk, Cuy, Cuw, Cum, Clc, Clp, Cla, Clb, Caw, Ciw, Cln, Ctd, Cro, Cmtn, Cmtr, Cmst, Csh⟩ hPm.comm hDm.comm hS hl
end
