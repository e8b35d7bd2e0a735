theorem cdX10_sheet : yX10_sheet.cls ≠ "java/lang/invoke/MethodHandle" ∧ yX10_sheet.cls ≠ "java/lang/invoke/VarHandle" ∧ (parseMethodDescriptor yX10_sheet.desc).map (fun d => d.parameters.length) = some 3 := by decide +kernel
theorem cdX10_set : yX10_set.cls ≠ "java/lang/invoke/MethodHandle" ∧ yX10_set.cls ≠ "java/lang/invoke/VarHandle" ∧ (parseMethodDescriptor yX10_set.desc).map (fun d => d.parameters.length) = some 3 := by decide +kernel
theorem cdX10_copy : yX10_copy.cls ≠ "java/lang/invoke/MethodHandle" ∧ yX10_copy.cls ≠ "java/lang/invoke/VarHandle" ∧ (parseMethodDescriptor yX10_copy.desc).map (fun d => d.parameters.length) = some 5 := by decide +kernel
theorem cdX10_drop : yX10_drop.cls ≠ "java/lang/invoke/MethodHandle" ∧ yX10_drop.cls ≠ "java/lang/invoke/VarHandle" ∧ (parseMethodDescriptor yX10_drop.desc).map (fun d => d.parameters.length) = some 1 := by decide +kernel
theorem cdX11_sheet : yX11_sheet.cls ≠ "java/lang/invoke/MethodHandle" ∧ yX11_sheet.cls ≠ "java/lang/invoke/VarHandle" ∧ (parseMethodDescriptor yX11_sheet.desc).map (fun d => d.parameters.length) = some 3 := by decide +kernel
theorem cdX11_set : yX11_set.cls ≠ "java/lang/invoke/MethodHandle" ∧ yX11_set.cls ≠ "java/lang/invoke/VarHandle" ∧ (parseMethodDescriptor yX11_set.desc).map (fun d => d.parameters.length) = some 3 := by decide +kernel
theorem cdX11_copy : yX11_copy.cls ≠ "java/lang/invoke/MethodHandle" ∧ yX11_copy.cls ≠ "java/lang/invoke/VarHandle" ∧ (parseMethodDescriptor yX11_copy.desc).map (fun d => d.parameters.length) = some 5 := by decide +kernel
theorem cdX11_drop : yX11_drop.cls ≠ "java/lang/invoke/MethodHandle" ∧ yX11_drop.cls ≠ "java/lang/invoke/VarHandle" ∧ (parseMethodDescriptor yX11_drop.desc).map (fun d => d.parameters.length) = some 1 := by decide +kernel
theorem Gd_X10_sheet : gdA wsX10_sheet := gd_cons (by decide +kernel) (gd_app (gd_all (ws := wsX10_sheet_o1) (by decide +kernel)) (gd_app (gd_app (gd_app Gd_X100 Gd_X90) Gd_X10_isBelow) (gd_app (gd_app Gd_X10_finding Gd_X9_lay) Gd_X10_passed)))
theorem Gd_X10_set : gdA wsX10_set := gd_cons (by decide +kernel) (gd_app (gd_all (ws := wsX10_set_o1) (by decide +kernel)) (gd_app (gd_app (gd_app Gd_X100 Gd_X90) (gd_app Gd_X10_isBelow Gd_X9_isMissing)) (gd_app (gd_app Gd_X10_finding Gd_X9_hasPlaces) (gd_app Gd_X9_put Gd_X10_passed))))
theorem Gd_X10_copy : gdA wsX10_copy := gd_cons (by decide +kernel) (gd_app (gd_all (ws := wsX10_copy_o1) (by decide +kernel)) (gd_app (gd_app (gd_app Gd_X100 Gd_X90) (gd_app Gd_X10_isBelow Gd_X9_isMissing)) (gd_app (gd_app Gd_X10_finding Gd_X9_hasPlaces) Gd_X10_passed)))
theorem Gd_X10_drop : gdA wsX10_drop := gd_cons (by decide +kernel) (gd_app (gd_all (ws := wsX10_drop_o1) (by decide +kernel)) (gd_app (gd_app (gd_app Gd_X100 Gd_X90) (gd_app Gd_X10_isBelow Gd_X9_isMissing)) (gd_app (gd_app Gd_X10_finding Gd_X9_takeAway) Gd_X10_passed)))
theorem Gd_X11_sheet : gdA wsX11_sheet := gd_cons (by decide +kernel) (gd_app (gd_all (ws := wsX11_sheet_o1) (by decide +kernel)) (gd_app (gd_app Gd_X110 Gd_X11_isSheet) (gd_app Gd_X11_in Gd_X11_found)))
theorem Gd_X11_set : gdA wsX11_set := gd_cons (by decide +kernel) (gd_app (gd_all (ws := wsX11_set_o1) (by decide +kernel)) (gd_app (gd_app Gd_X110 Gd_X11_isSheet) (gd_app Gd_X11_found Gd_X11_in)))
theorem Gd_X11_copy : gdA wsX11_copy := gd_cons (by decide +kernel) (gd_app (gd_all (ws := wsX11_copy_o1) (by decide +kernel)) (gd_app (gd_app Gd_X110 Gd_X11_isSheet) Gd_X11_found))
theorem Gd_X11_drop : gdA wsX11_drop := gd_cons (by decide +kernel) (gd_app (gd_all (ws := wsX11_drop_o1) (by decide +kernel)) (gd_app (gd_app Gd_X110 Gd_X11_isSheet) Gd_X11_found))
theorem ggL_law_X10_sheet : GoodIn wsL_law wsX10_sheet := goodIn_s (fun _ h => (wm_r (wm_l (wm_l (wm_r (wm_l (wm_r (wm_l (wm_l h))))))))) Gd_X10_sheet
theorem gL_law_X10_sheet : GoodIn wsL_law (wsV RL 21 RX10 yX10_sheet wsX10_sheet) := goodIn_V (own := RL) (idx := 21) (C := RX10) (y := yX10_sheet) (wm_l (wm_l (wm_l (wm_l (wm_l (wm_i 14 rfl)))))) (wm_l (wm_l (wm_l (wm_l (wm_l (wm_i 15 rfl)))))) (wm_l (wm_l (wm_l (wm_l (wm_l (wm_i 16 rfl)))))) (wm_l (wm_l (wm_l (wm_l (wm_l (wm_i 2 rfl)))))) ggL_law_X10_sheet
theorem ggL_law_X11_sheet : GoodIn wsL_law wsX11_sheet := goodIn_s (fun _ h => (wm_r (wm_l (wm_l (wm_r (wm_l (wm_r (wm_l (wm_r h))))))))) Gd_X11_sheet
theorem gL_law_X11_sheet : GoodIn wsL_law (wsV RL 25 RX11 yX11_sheet wsX11_sheet) := goodIn_V (own := RL) (idx := 25) (C := RX11) (y := yX11_sheet) (wm_l (wm_l (wm_l (wm_l (wm_l (wm_i 17 rfl)))))) (wm_l (wm_l (wm_l (wm_l (wm_l (wm_i 18 rfl)))))) (wm_l (wm_l (wm_l (wm_l (wm_l (wm_i 19 rfl)))))) (wm_l (wm_l (wm_l (wm_l (wm_l (wm_i 5 rfl)))))) ggL_law_X11_sheet
theorem ggL_law_X10_set : GoodIn wsL_law wsX10_set := goodIn_s (fun _ h => (wm_r (wm_l (wm_l (wm_r (wm_l (wm_r (wm_r h)))))))) Gd_X10_set
theorem gL_law_X10_set : GoodIn wsL_law (wsV RL 26 RX10 yX10_set wsX10_set) := goodIn_V (own := RL) (idx := 26) (C := RX10) (y := yX10_set) (wm_l (wm_l (wm_l (wm_l (wm_l (wm_i 20 rfl)))))) (wm_l (wm_l (wm_l (wm_l (wm_l (wm_i 21 rfl)))))) (wm_l (wm_l (wm_l (wm_l (wm_l (wm_i 22 rfl)))))) (wm_l (wm_l (wm_l (wm_l (wm_l (wm_i 2 rfl)))))) ggL_law_X10_set
theorem ggL_law_X11_set : GoodIn wsL_law wsX11_set := goodIn_s (fun _ h => (wm_r (wm_l (wm_l (wm_r (wm_r (wm_l (wm_l (wm_l h))))))))) Gd_X11_set
theorem gL_law_X11_set : GoodIn wsL_law (wsV RL 29 RX11 yX11_set wsX11_set) := goodIn_V (own := RL) (idx := 29) (C := RX11) (y := yX11_set) (wm_l (wm_l (wm_l (wm_l (wm_l (wm_i 23 rfl)))))) (wm_l (wm_l (wm_l (wm_l (wm_r (wm_i 0 rfl)))))) (wm_l (wm_l (wm_l (wm_l (wm_r (wm_i 1 rfl)))))) (wm_l (wm_l (wm_l (wm_l (wm_l (wm_i 5 rfl)))))) ggL_law_X11_set
theorem ggL_law_X10_copy : GoodIn wsL_law wsX10_copy := goodIn_s (fun _ h => (wm_r (wm_l (wm_l (wm_r (wm_r (wm_l (wm_l (wm_r h))))))))) Gd_X10_copy
theorem gL_law_X10_copy : GoodIn wsL_law (wsV RL 30 RX10 yX10_copy wsX10_copy) := goodIn_V (own := RL) (idx := 30) (C := RX10) (y := yX10_copy) (wm_l (wm_l (wm_l (wm_l (wm_r (wm_i 2 rfl)))))) (wm_l (wm_l (wm_l (wm_l (wm_r (wm_i 3 rfl)))))) (wm_l (wm_l (wm_l (wm_l (wm_r (wm_i 4 rfl)))))) (wm_l (wm_l (wm_l (wm_l (wm_l (wm_i 2 rfl)))))) ggL_law_X10_copy
theorem ggL_law_X11_copy : GoodIn wsL_law wsX11_copy := goodIn_s (fun _ h => (wm_r (wm_l (wm_l (wm_r (wm_r (wm_l (wm_r h)))))))) Gd_X11_copy
theorem gL_law_X11_copy : GoodIn wsL_law (wsV RL 34 RX11 yX11_copy wsX11_copy) := goodIn_V (own := RL) (idx := 34) (C := RX11) (y := yX11_copy) (wm_l (wm_l (wm_l (wm_l (wm_r (wm_i 5 rfl)))))) (wm_l (wm_l (wm_l (wm_l (wm_r (wm_i 6 rfl)))))) (wm_l (wm_l (wm_l (wm_l (wm_r (wm_i 7 rfl)))))) (wm_l (wm_l (wm_l (wm_l (wm_l (wm_i 5 rfl)))))) ggL_law_X11_copy
theorem ggL_law_X10_drop : GoodIn wsL_law wsX10_drop := goodIn_s (fun _ h => (wm_r (wm_l (wm_l (wm_r (wm_r (wm_r (wm_l h)))))))) Gd_X10_drop
theorem gL_law_X10_drop : GoodIn wsL_law (wsV RL 35 RX10 yX10_drop wsX10_drop) := goodIn_V (own := RL) (idx := 35) (C := RX10) (y := yX10_drop) (wm_l (wm_l (wm_l (wm_l (wm_r (wm_i 8 rfl)))))) (wm_l (wm_l (wm_l (wm_l (wm_r (wm_i 9 rfl)))))) (wm_l (wm_l (wm_l (wm_l (wm_r (wm_i 10 rfl)))))) (wm_l (wm_l (wm_l (wm_l (wm_l (wm_i 2 rfl)))))) ggL_law_X10_drop
theorem ggL_law_X11_drop : GoodIn wsL_law wsX11_drop := goodIn_s (fun _ h => (wm_r (wm_l (wm_l (wm_r (wm_r (wm_r (wm_r h)))))))) Gd_X11_drop
theorem gL_law_X11_drop : GoodIn wsL_law (wsV RL 39 RX11 yX11_drop wsX11_drop) := goodIn_V (own := RL) (idx := 39) (C := RX11) (y := yX11_drop) (wm_l (wm_l (wm_l (wm_l (wm_r (wm_i 11 rfl)))))) (wm_l (wm_l (wm_l (wm_l (wm_r (wm_i 12 rfl)))))) (wm_l (wm_l (wm_l (wm_l (wm_r (wm_i 13 rfl)))))) (wm_l (wm_l (wm_l (wm_l (wm_l (wm_i 5 rfl)))))) ggL_law_X11_drop
def dqA (c : ByteArray) (o : Nat) (m : List UInt8) : Prop := c.data.toList.drop o = m
def dqE : List UInt8 → List UInt8 → Bool
  | [], [] => true
  | a :: as, b :: bs => match a.toNat == b.toNat with
    | true => dqE as bs
    | false => false
  | _, _ => false
theorem dqE_eq : ∀ {l m : List UInt8}, dqE l m = true → l = m := by
  intro l
  induction l with
  | nil =>
    intro m h
    cases m with
    | nil => rfl
    | cons b bs => exact absurd h (by unfold dqE; decide)
  | cons a as ih =>
    intro m h
    cases m with
    | nil => exact absurd h (by unfold dqE; decide)
    | cons b bs =>
      unfold dqE at h
      cases e : a.toNat == b.toNat with
      | true =>
        rw [e] at h
        have e2 : a = b := UInt8.toNat_inj.mp (eq_of_beq e)
        rw [e2, ih h]
      | false => rw [e] at h; exact absurd (show false = true from h) Bool.false_ne_true
theorem dq_eq {c : ByteArray} {m : List UInt8} (h : dqE c.data.toList m = true) : dqA c 0 m := dqE_eq h
theorem dq_next {c : ByteArray} {o : Nat} {m m' : List UInt8} (h : dqA c o m) (n : Nat) (hm : m.drop n = m') : dqA c (o + n) m' := by
  unfold dqA at h ⊢
  rw [← List.drop_drop, h, hm]
theorem dq1 {c : ByteArray} {o j : Nat} {m t : List UInt8} {b : UInt8} (h : dqA c o m) (hj : m.drop j = b :: t) : ∃ h' : o + j < c.size, c[o + j] = b := by
  unfold dqA at h
  have e1 : (c.data.toList.drop (o + j))[0]? = some b := by rw [← List.drop_drop, h, hj]; rfl
  rw [List.getElem?_drop, Nat.add_zero] at e1
  obtain ⟨h1, h2⟩ := List.getElem?_eq_some_iff.mp e1
  cases c with
  | mk d => cases d with
    | mk l => exact ⟨h1, h2⟩
theorem dq_u1 {α : Type} {c : ByteArray} {p : Nat} {b : UInt8} {f : Nat → Jvm.ClassFile.Decoder α} (h : ∃ h' : p < c.size, c[p] = b) : (Jvm.ClassFile.Reader.u1 >>= f).runAt c p = (f b.toNat).runAt c (p + 1) := by
  obtain ⟨h1, h2⟩ := h
  have e : (Jvm.ClassFile.Reader.u1 : Jvm.ClassFile.Decoder Nat) c p = .ok (c[p].toNat, p + 1) := by
    show (dite (p < c.size) (fun h => ((do set (p + 1); pure (c[p]'h).toNat) : Jvm.ClassFile.Decoder Nat)) (fun _ => throw (Jvm.ClassFile.HasTruncated.truncated p))) c p = _
    rw [dif_pos h1]; rfl
  show Except.bind ((Jvm.ClassFile.Reader.u1 : Jvm.ClassFile.Decoder Nat) c p) (fun a => f a.1 c a.2) = _
  rw [e, h2]; rfl
theorem dq_u2 {α : Type} {c : ByteArray} {p : Nat} {x y : UInt8} {f : Nat → Jvm.ClassFile.Decoder α} (h : ∃ h' : p < c.size, c[p] = x) (h' : ∃ h' : p + 1 < c.size, c[p + 1] = y) : (Jvm.ClassFile.Reader.u2 >>= f).runAt c p = (f (x.toNat * 256 + y.toNat)).runAt c (p + 2) := by
  have e : (Jvm.ClassFile.Reader.u2 : Jvm.ClassFile.Decoder Nat).runAt c p = .ok (x.toNat * 256 + y.toNat, p + 2) := by
    show (Jvm.ClassFile.Reader.u1 >>= fun hi => Jvm.ClassFile.Reader.u1 >>= fun lo => (pure (hi * 256 + lo) : Jvm.ClassFile.Decoder Nat)).runAt c p = _
    rw [dq_u1 h, dq_u1 h']; rfl
  show Except.bind ((Jvm.ClassFile.Reader.u2 : Jvm.ClassFile.Decoder Nat).runAt c p) (fun a => f a.1 c a.2) = _
  rw [e]; rfl
theorem dq_s2 {α : Type} {c : ByteArray} {p : Nat} {x y : UInt8} {f : Int → Jvm.ClassFile.Decoder α} (h : ∃ h' : p < c.size, c[p] = x) (h' : ∃ h' : p + 1 < c.size, c[p + 1] = y) : (Jvm.ClassFile.Reader.s2 >>= f).runAt c p = (f (Jvm.ClassFile.Reader.signed 16 (x.toNat * 256 + y.toNat))).runAt c (p + 2) := by
  have e : (Jvm.ClassFile.Reader.u2 : Jvm.ClassFile.Decoder Nat).runAt c p = .ok (x.toNat * 256 + y.toNat, p + 2) := by
    show (Jvm.ClassFile.Reader.u1 >>= fun hi => Jvm.ClassFile.Reader.u1 >>= fun lo => (pure (hi * 256 + lo) : Jvm.ClassFile.Decoder Nat)).runAt c p = _
    rw [dq_u1 h, dq_u1 h']; rfl
  show Except.bind (Except.map (fun a => (Jvm.ClassFile.Reader.signed 16 a.1, a.2)) ((Jvm.ClassFile.Reader.u2 : Jvm.ClassFile.Decoder Nat).runAt c p)) (fun a => f a.1 c a.2) = _
  rw [e]; rfl
theorem dq_dec {c : ByteArray} {p n : Nat} {ins : Instr} (h : (Jvm.ClassFile.Decoder.instr p).runAt c p = .ok (ins, p + n)) : decode c p = .ok (ins, n) := by
  unfold decode
  rw [h]
  show Except.ok (ins, p + n - p) = _
  rw [Nat.add_sub_cancel_left]
theorem dq_3 {c : ByteArray} {o : Nat} {m t : List UInt8} (h : dqA c o m) (j : Nat) (hj : m.drop j = 3 :: t) : decode c (o + j) = .ok (.iconst 0, 1) := dq_dec (by unfold Jvm.ClassFile.Decoder.instr; rw [dq_u1 (dq1 h hj)]; rfl)
theorem dq_4 {c : ByteArray} {o : Nat} {m t : List UInt8} (h : dqA c o m) (j : Nat) (hj : m.drop j = 4 :: t) : decode c (o + j) = .ok (.iconst 1, 1) := dq_dec (by unfold Jvm.ClassFile.Decoder.instr; rw [dq_u1 (dq1 h hj)]; rfl)
theorem dq_5 {c : ByteArray} {o : Nat} {m t : List UInt8} (h : dqA c o m) (j : Nat) (hj : m.drop j = 5 :: t) : decode c (o + j) = .ok (.iconst 2, 1) := dq_dec (by unfold Jvm.ClassFile.Decoder.instr; rw [dq_u1 (dq1 h hj)]; rfl)
theorem dq_6 {c : ByteArray} {o : Nat} {m t : List UInt8} (h : dqA c o m) (j : Nat) (hj : m.drop j = 6 :: t) : decode c (o + j) = .ok (.iconst 3, 1) := dq_dec (by unfold Jvm.ClassFile.Decoder.instr; rw [dq_u1 (dq1 h hj)]; rfl)
theorem dq_7 {c : ByteArray} {o : Nat} {m t : List UInt8} (h : dqA c o m) (j : Nat) (hj : m.drop j = 7 :: t) : decode c (o + j) = .ok (.iconst 4, 1) := dq_dec (by unfold Jvm.ClassFile.Decoder.instr; rw [dq_u1 (dq1 h hj)]; rfl)
theorem dq_8 {c : ByteArray} {o : Nat} {m t : List UInt8} (h : dqA c o m) (j : Nat) (hj : m.drop j = 8 :: t) : decode c (o + j) = .ok (.iconst 5, 1) := dq_dec (by unfold Jvm.ClassFile.Decoder.instr; rw [dq_u1 (dq1 h hj)]; rfl)
theorem dq_29 {c : ByteArray} {o : Nat} {m t : List UInt8} (h : dqA c o m) (j : Nat) (hj : m.drop j = 29 :: t) : decode c (o + j) = .ok (.iload_n 3, 1) := dq_dec (by unfold Jvm.ClassFile.Decoder.instr; rw [dq_u1 (dq1 h hj)]; rfl)
theorem dq_42 {c : ByteArray} {o : Nat} {m t : List UInt8} (h : dqA c o m) (j : Nat) (hj : m.drop j = 42 :: t) : decode c (o + j) = .ok (.aload_n 0, 1) := dq_dec (by unfold Jvm.ClassFile.Decoder.instr; rw [dq_u1 (dq1 h hj)]; rfl)
theorem dq_43 {c : ByteArray} {o : Nat} {m t : List UInt8} (h : dqA c o m) (j : Nat) (hj : m.drop j = 43 :: t) : decode c (o + j) = .ok (.aload_n 1, 1) := dq_dec (by unfold Jvm.ClassFile.Decoder.instr; rw [dq_u1 (dq1 h hj)]; rfl)
theorem dq_44 {c : ByteArray} {o : Nat} {m t : List UInt8} (h : dqA c o m) (j : Nat) (hj : m.drop j = 44 :: t) : decode c (o + j) = .ok (.aload_n 2, 1) := dq_dec (by unfold Jvm.ClassFile.Decoder.instr; rw [dq_u1 (dq1 h hj)]; rfl)
theorem dq_46 {c : ByteArray} {o : Nat} {m t : List UInt8} (h : dqA c o m) (j : Nat) (hj : m.drop j = 46 :: t) : decode c (o + j) = .ok (.iaload, 1) := dq_dec (by unfold Jvm.ClassFile.Decoder.instr; rw [dq_u1 (dq1 h hj)]; rfl)
theorem dq_87 {c : ByteArray} {o : Nat} {m t : List UInt8} (h : dqA c o m) (j : Nat) (hj : m.drop j = 87 :: t) : decode c (o + j) = .ok (.pop, 1) := dq_dec (by unfold Jvm.ClassFile.Decoder.instr; rw [dq_u1 (dq1 h hj)]; rfl)
theorem dq_96 {c : ByteArray} {o : Nat} {m t : List UInt8} (h : dqA c o m) (j : Nat) (hj : m.drop j = 96 :: t) : decode c (o + j) = .ok (.iadd, 1) := dq_dec (by unfold Jvm.ClassFile.Decoder.instr; rw [dq_u1 (dq1 h hj)]; rfl)
theorem dq_182 {c : ByteArray} {o : Nat} {m t : List UInt8} {x y : UInt8} (h : dqA c o m) (j : Nat) (hj : m.drop j = 182 :: x :: y :: t) (n : Nat) (hn : x.toNat * 256 + y.toNat = n) : decode c (o + j) = .ok (.invokevirtual n, 3) := by
  have e1 : m.drop (j + 1) = x :: y :: t := by rw [← List.drop_drop, hj]; rfl
  have e2 : m.drop (j + 2) = y :: t := by rw [← List.drop_drop, hj]; rfl
  have a1 : ∃ h' : o + j + 1 < c.size, c[o + j + 1] = x := dq1 (j := j + 1) h e1
  have a2 : ∃ h' : o + j + 1 + 1 < c.size, c[o + j + 1 + 1] = y := dq1 (j := j + 2) h e2
  refine dq_dec ?_
  unfold Jvm.ClassFile.Decoder.instr
  rw [dq_u1 (dq1 h hj)]
  show (Jvm.ClassFile.Reader.u2 >>= fun i => (pure (.invokevirtual i) : Jvm.ClassFile.Decoder Instr)).runAt c (o + j + 1) = _
  rw [dq_u2 a1 a2, hn]
  rfl
theorem dq_167 {c : ByteArray} {o : Nat} {m t : List UInt8} {x y : UInt8} (h : dqA c o m) (j : Nat) (hj : m.drop j = 167 :: x :: y :: t) (n : Int) (hn : Jvm.ClassFile.Reader.signed 16 (x.toNat * 256 + y.toNat) = n) : decode c (o + j) = .ok (.goto n, 3) := by
  have e1 : m.drop (j + 1) = x :: y :: t := by rw [← List.drop_drop, hj]; rfl
  have e2 : m.drop (j + 2) = y :: t := by rw [← List.drop_drop, hj]; rfl
  have a1 : ∃ h' : o + j + 1 < c.size, c[o + j + 1] = x := dq1 (j := j + 1) h e1
  have a2 : ∃ h' : o + j + 1 + 1 < c.size, c[o + j + 1 + 1] = y := dq1 (j := j + 2) h e2
  refine dq_dec ?_
  unfold Jvm.ClassFile.Decoder.instr
  rw [dq_u1 (dq1 h hj)]
  show (Jvm.ClassFile.Reader.s2 >>= fun i => (pure (.goto i) : Jvm.ClassFile.Decoder Instr)).runAt c (o + j + 1) = _
  rw [dq_s2 a1 a2, hn]
  rfl
def sL_69 : List UInt8 := 0xf9 :: 0xa5 :: 0x04 :: 0xac :: []
def sL_68 : List UInt8 := 0xb6 :: 0x00 :: 0xb1 :: 0x57 :: 0xa7 :: 0x00 :: 0x10 :: 0x2b :: 0xb6 :: 0x00 :: 0xb2 :: 0x57 :: 0x2c :: 0xb6 :: 0x00 :: 0xb5 :: 0x57 :: 0xa7 :: 0x00 :: 0x03 :: 0x84 :: 0x03 :: 0x06 :: 0xa7 :: sL_69
def sL_67 : List UInt8 := 0x2e :: 0xb6 :: 0x00 :: 0xad :: 0x57 :: 0xa7 :: 0x00 :: 0x27 :: 0x2b :: 0x2a :: 0x1d :: 0x04 :: 0x60 :: 0x2e :: 0xb6 :: 0x00 :: 0xae :: 0x57 :: 0x2c :: 0x2a :: 0x1d :: 0x04 :: 0x60 :: 0x2e :: sL_68
def sL_66 : List UInt8 := 0x60 :: 0x2e :: 0xb6 :: 0x00 :: 0xa9 :: 0x57 :: 0xa7 :: 0x00 :: 0x3e :: 0x2b :: 0x2a :: 0x1d :: 0x04 :: 0x60 :: 0x2e :: 0xb6 :: 0x00 :: 0xaa :: 0x57 :: 0x2c :: 0x2a :: 0x1d :: 0x04 :: 0x60 :: sL_67
def sL_65 : List UInt8 := 0x2b :: 0x2a :: 0x1d :: 0x04 :: 0x60 :: 0x2e :: 0x2a :: 0x1d :: 0x05 :: 0x60 :: 0x2e :: 0xb6 :: 0x00 :: 0xa6 :: 0x57 :: 0x2c :: 0x2a :: 0x1d :: 0x04 :: 0x60 :: 0x2e :: 0x2a :: 0x1d :: 0x05 :: sL_66
def sL_64 : List UInt8 := 0x60 :: 0x2e :: 0xb6 :: 0x00 :: 0xa2 :: 0x57 :: 0x2c :: 0x2a :: 0x1d :: 0x04 :: 0x60 :: 0x2e :: 0x2a :: 0x1d :: 0x05 :: 0x60 :: 0x2e :: 0xb6 :: 0x00 :: 0xa5 :: 0x57 :: 0xa7 :: 0x00 :: 0x5f :: sL_65
def sL_63 : List UInt8 := 0x9e :: 0x57 :: 0x2c :: 0x2a :: 0x1d :: 0x04 :: 0x60 :: 0x2e :: 0xb6 :: 0x00 :: 0xa1 :: 0x57 :: 0xa7 :: 0x00 :: 0x80 :: 0x2b :: 0x2a :: 0x1d :: 0x04 :: 0x60 :: 0x2e :: 0x2a :: 0x1d :: 0x05 :: sL_64
def sL_62 : List UInt8 := 0x00 :: 0x9a :: 0x57 :: 0x2c :: 0x2a :: 0x1d :: 0x04 :: 0x60 :: 0x2e :: 0xb6 :: 0x00 :: 0x9d :: 0x57 :: 0xa7 :: 0x00 :: 0x97 :: 0x2b :: 0x2a :: 0x1d :: 0x04 :: 0x60 :: 0x2e :: 0xb6 :: 0x00 :: sL_63
def sL_61 : List UInt8 := 0x2a :: 0x1d :: 0x04 :: 0x60 :: 0x2e :: 0x2a :: 0x1d :: 0x05 :: 0x60 :: 0x2e :: 0xb6 :: 0x00 :: 0x99 :: 0x57 :: 0xa7 :: 0x00 :: 0xae :: 0x2b :: 0x2a :: 0x1d :: 0x04 :: 0x60 :: 0x2e :: 0xb6 :: sL_62
def sL_60 : List UInt8 := 0x2e :: 0xb6 :: 0x00 :: 0x95 :: 0x57 :: 0xa7 :: 0x00 :: 0xcf :: 0x2b :: 0x2a :: 0x1d :: 0x04 :: 0x60 :: 0x2e :: 0x2a :: 0x1d :: 0x05 :: 0x60 :: 0x2e :: 0xb6 :: 0x00 :: 0x96 :: 0x57 :: 0x2c :: sL_61
def sL_59 : List UInt8 := 0x2a :: 0x1d :: 0x06 :: 0x60 :: 0x2e :: 0xb6 :: 0x00 :: 0x92 :: 0x57 :: 0x2c :: 0x2a :: 0x1d :: 0x04 :: 0x60 :: 0x2e :: 0x2a :: 0x1d :: 0x05 :: 0x60 :: 0x2e :: 0x2a :: 0x1d :: 0x06 :: 0x60 :: sL_60
def sL_58 : List UInt8 := 0x2c :: 0x2a :: 0x1d :: 0x04 :: 0x60 :: 0x2e :: 0xb6 :: 0x00 :: 0x91 :: 0x57 :: 0xa7 :: 0x00 :: 0xfa :: 0x2b :: 0x2a :: 0x1d :: 0x04 :: 0x60 :: 0x2e :: 0x2a :: 0x1d :: 0x05 :: 0x60 :: 0x2e :: sL_59
def sL_57 : List UInt8 := 0x60 :: 0x2e :: 0x2a :: 0x1d :: 0x07 :: 0x60 :: 0x2e :: 0xb6 :: 0x00 :: 0x8d :: 0x57 :: 0xa7 :: 0x01 :: 0x11 :: 0x2b :: 0x2a :: 0x1d :: 0x04 :: 0x60 :: 0x2e :: 0xb6 :: 0x00 :: 0x8e :: 0x57 :: sL_58
def sL_56 : List UInt8 := 0x2e :: 0x2a :: 0x1d :: 0x07 :: 0x60 :: 0x2e :: 0xb6 :: 0x00 :: 0x8a :: 0x57 :: 0x2c :: 0x2a :: 0x1d :: 0x04 :: 0x60 :: 0x2e :: 0x2a :: 0x1d :: 0x05 :: 0x60 :: 0x2e :: 0x2a :: 0x1d :: 0x06 :: sL_57
def sL_55 : List UInt8 := 0x60 :: 0x2e :: 0xb6 :: 0x00 :: 0x89 :: 0x57 :: 0xa7 :: 0x01 :: 0x46 :: 0x2b :: 0x2a :: 0x1d :: 0x04 :: 0x60 :: 0x2e :: 0x2a :: 0x1d :: 0x05 :: 0x60 :: 0x2e :: 0x2a :: 0x1d :: 0x06 :: 0x60 :: sL_56
def sL_54 : List UInt8 := 0x2e :: 0xb6 :: 0x00 :: 0x86 :: 0x57 :: 0x2c :: 0x2a :: 0x1d :: 0x04 :: 0x60 :: 0x2e :: 0x2a :: 0x1d :: 0x05 :: 0x60 :: 0x2e :: 0x2a :: 0x1d :: 0x06 :: 0x60 :: 0x2e :: 0x2a :: 0x1d :: 0x07 :: sL_55
def sL_53 : List UInt8 := 0x57 :: 0xa7 :: 0x01 :: 0x7b :: 0x2b :: 0x2a :: 0x1d :: 0x04 :: 0x60 :: 0x2e :: 0x2a :: 0x1d :: 0x05 :: 0x60 :: 0x2e :: 0x2a :: 0x1d :: 0x06 :: 0x60 :: 0x2e :: 0x2a :: 0x1d :: 0x07 :: 0x60 :: sL_54
def sL_52 : List UInt8 := 0x2e :: 0x2a :: 0x1d :: 0x05 :: 0x60 :: 0x2e :: 0xb6 :: 0x00 :: 0x82 :: 0x57 :: 0x2c :: 0x2a :: 0x1d :: 0x04 :: 0x60 :: 0x2e :: 0x2a :: 0x1d :: 0x05 :: 0x60 :: 0x2e :: 0xb6 :: 0x00 :: 0x85 :: sL_53
def sL_51 : List UInt8 := 0x60 :: 0x2e :: 0x2a :: 0x1d :: 0x05 :: 0x60 :: 0x2e :: 0x2a :: 0x1d :: 0x06 :: 0x60 :: 0x2e :: 0xb6 :: 0x00 :: 0x81 :: 0x57 :: 0xa7 :: 0x01 :: 0x9c :: 0x2b :: 0x2a :: 0x1d :: 0x04 :: 0x60 :: sL_52
def sL_50 : List UInt8 := 0x2b :: 0x2a :: 0x1d :: 0x04 :: 0x60 :: 0x2e :: 0x2a :: 0x1d :: 0x05 :: 0x60 :: 0x2e :: 0x2a :: 0x1d :: 0x06 :: 0x60 :: 0x2e :: 0xb6 :: 0x00 :: 0x7e :: 0x57 :: 0x2c :: 0x2a :: 0x1d :: 0x04 :: sL_51
def sL_49 : List UInt8 := 0x60 :: 0x2e :: 0xb6 :: 0x00 :: 0x7a :: 0x57 :: 0x2c :: 0x2a :: 0x1d :: 0x04 :: 0x60 :: 0x2e :: 0x2a :: 0x1d :: 0x05 :: 0x60 :: 0x2e :: 0xb6 :: 0x00 :: 0x7d :: 0x57 :: 0xa7 :: 0x01 :: 0xc7 :: sL_50
def sL_48 : List UInt8 := 0x04 :: 0x60 :: 0x2e :: 0x2a :: 0x1d :: 0x05 :: 0x60 :: 0x2e :: 0xb6 :: 0x00 :: 0x79 :: 0x57 :: 0xa7 :: 0x01 :: 0xe8 :: 0x2b :: 0x2a :: 0x1d :: 0x04 :: 0x60 :: 0x2e :: 0x2a :: 0x1d :: 0x05 :: sL_49
def sL_47 : List UInt8 := 0x00 :: 0x75 :: 0x57 :: 0xa7 :: 0x02 :: 0x09 :: 0x2b :: 0x2a :: 0x1d :: 0x04 :: 0x60 :: 0x2e :: 0x2a :: 0x1d :: 0x05 :: 0x60 :: 0x2e :: 0xb6 :: 0x00 :: 0x76 :: 0x57 :: 0x2c :: 0x2a :: 0x1d :: sL_48
def sL_46 : List UInt8 := 0x06 :: 0x60 :: 0x2e :: 0xb6 :: 0x00 :: 0x72 :: 0x57 :: 0x2c :: 0x2a :: 0x1d :: 0x04 :: 0x60 :: 0x2e :: 0x2a :: 0x1d :: 0x05 :: 0x60 :: 0x2e :: 0x2a :: 0x1d :: 0x06 :: 0x60 :: 0x2e :: 0xb6 :: sL_47
def sL_45 : List UInt8 := 0x1d :: 0x05 :: 0x60 :: 0x2e :: 0xb6 :: 0x00 :: 0x71 :: 0x57 :: 0xa7 :: 0x02 :: 0x34 :: 0x2b :: 0x2a :: 0x1d :: 0x04 :: 0x60 :: 0x2e :: 0x2a :: 0x1d :: 0x05 :: 0x60 :: 0x2e :: 0x2a :: 0x1d :: sL_46
def sL_44 : List UInt8 := 0x02 :: 0x55 :: 0x2b :: 0x2a :: 0x1d :: 0x04 :: 0x60 :: 0x2e :: 0x2a :: 0x1d :: 0x05 :: 0x60 :: 0x2e :: 0xb6 :: 0x00 :: 0x6e :: 0x57 :: 0x2c :: 0x2a :: 0x1d :: 0x04 :: 0x60 :: 0x2e :: 0x2a :: sL_45
def sL_43 : List UInt8 := 0x1d :: 0x04 :: 0x60 :: 0x2e :: 0x2a :: 0x1d :: 0x05 :: 0x60 :: 0x2e :: 0x2a :: 0x1d :: 0x06 :: 0x60 :: 0x2e :: 0x2a :: 0x1d :: 0x07 :: 0x60 :: 0x2e :: 0xb6 :: 0x00 :: 0x6d :: 0x57 :: 0xa7 :: sL_44
def sL_42 : List UInt8 := 0x04 :: 0x60 :: 0x2e :: 0x2a :: 0x1d :: 0x05 :: 0x60 :: 0x2e :: 0x2a :: 0x1d :: 0x06 :: 0x60 :: 0x2e :: 0x2a :: 0x1d :: 0x07 :: 0x60 :: 0x2e :: 0xb6 :: 0x00 :: 0x6a :: 0x57 :: 0x2c :: 0x2a :: sL_43
def sL_41 : List UInt8 := 0x2c :: 0xb6 :: 0x00 :: 0x65 :: 0x57 :: 0xa7 :: 0x02 :: 0x97 :: 0x2b :: 0xb6 :: 0x00 :: 0x66 :: 0x57 :: 0x2c :: 0xb6 :: 0x00 :: 0x69 :: 0x57 :: 0xa7 :: 0x02 :: 0x8a :: 0x2b :: 0x2a :: 0x1d :: sL_42
def sL_40 : List UInt8 := 0x2e :: 0x85 :: 0x14 :: 0x00 :: 0x5a :: 0x7f :: 0x81 :: 0x2a :: 0x1d :: 0x06 :: 0x60 :: 0x2e :: 0xb6 :: 0x00 :: 0x60 :: 0x57 :: 0xa7 :: 0x02 :: 0xa4 :: 0x2b :: 0xb6 :: 0x00 :: 0x61 :: 0x57 :: sL_41
def sL_39 : List UInt8 := 0x81 :: 0x2a :: 0x1d :: 0x06 :: 0x60 :: 0x2e :: 0xb6 :: 0x00 :: 0x5c :: 0x57 :: 0x2c :: 0x2a :: 0x1d :: 0x04 :: 0x60 :: 0x2e :: 0x85 :: 0x10 :: 0x20 :: 0x79 :: 0x2a :: 0x1d :: 0x05 :: 0x60 :: sL_40
def sL_38 : List UInt8 := 0x57 :: 0xa7 :: 0x02 :: 0xe3 :: 0x2b :: 0x2a :: 0x1d :: 0x04 :: 0x60 :: 0x2e :: 0x85 :: 0x10 :: 0x20 :: 0x79 :: 0x2a :: 0x1d :: 0x05 :: 0x60 :: 0x2e :: 0x85 :: 0x14 :: 0x00 :: 0x5a :: 0x7f :: sL_39
def sL_37 : List UInt8 := 0x2e :: 0x2a :: 0x1d :: 0x05 :: 0x60 :: 0x2e :: 0x2a :: 0x1d :: 0x06 :: 0x60 :: 0x2e :: 0x2a :: 0x1d :: 0x07 :: 0x60 :: 0x2e :: 0x2a :: 0x1d :: 0x08 :: 0x60 :: 0x2e :: 0xb6 :: 0x00 :: 0x59 :: sL_38
def sL_36 : List UInt8 := 0x2a :: 0x1d :: 0x06 :: 0x60 :: 0x2e :: 0x2a :: 0x1d :: 0x07 :: 0x60 :: 0x2e :: 0x2a :: 0x1d :: 0x08 :: 0x60 :: 0x2e :: 0xb6 :: 0x00 :: 0x56 :: 0x57 :: 0x2c :: 0x2a :: 0x1d :: 0x04 :: 0x60 :: sL_37
def sL_35 : List UInt8 := 0x2e :: 0x2a :: 0x1d :: 0x08 :: 0x60 :: 0x2e :: 0xb6 :: 0x00 :: 0x55 :: 0x57 :: 0xa7 :: 0x03 :: 0x22 :: 0x2b :: 0x2a :: 0x1d :: 0x04 :: 0x60 :: 0x2e :: 0x2a :: 0x1d :: 0x05 :: 0x60 :: 0x2e :: sL_36
def sL_34 : List UInt8 := 0xb6 :: 0x00 :: 0x52 :: 0x57 :: 0x2c :: 0x2a :: 0x1d :: 0x04 :: 0x60 :: 0x2e :: 0x2a :: 0x1d :: 0x05 :: 0x60 :: 0x2e :: 0x2a :: 0x1d :: 0x06 :: 0x60 :: 0x2e :: 0x2a :: 0x1d :: 0x07 :: 0x60 :: sL_35
def sL_33 : List UInt8 := 0x1d :: 0x04 :: 0x60 :: 0x2e :: 0x2a :: 0x1d :: 0x05 :: 0x60 :: 0x2e :: 0x2a :: 0x1d :: 0x06 :: 0x60 :: 0x2e :: 0x2a :: 0x1d :: 0x07 :: 0x60 :: 0x2e :: 0x2a :: 0x1d :: 0x08 :: 0x60 :: 0x2e :: sL_34
def sL_32 : List UInt8 := 0xb6 :: 0x00 :: 0x4e :: 0x57 :: 0x2c :: 0x2a :: 0x1d :: 0x04 :: 0x60 :: 0x2e :: 0x2a :: 0x1d :: 0x05 :: 0x60 :: 0x2e :: 0xb6 :: 0x00 :: 0x51 :: 0x57 :: 0xa7 :: 0x03 :: 0x61 :: 0x2b :: 0x2a :: sL_33
def sL_31 : List UInt8 := 0x2e :: 0x2a :: 0x1d :: 0x06 :: 0x60 :: 0x2e :: 0xb6 :: 0x00 :: 0x4d :: 0x57 :: 0xa7 :: 0x03 :: 0x82 :: 0x2b :: 0x2a :: 0x1d :: 0x04 :: 0x60 :: 0x2e :: 0x2a :: 0x1d :: 0x05 :: 0x60 :: 0x2e :: sL_32
def sL_30 : List UInt8 := 0x2a :: 0x1d :: 0x05 :: 0x60 :: 0x2e :: 0x2a :: 0x1d :: 0x06 :: 0x60 :: 0x2e :: 0xb6 :: 0x00 :: 0x4a :: 0x57 :: 0x2c :: 0x2a :: 0x1d :: 0x04 :: 0x60 :: 0x2e :: 0x2a :: 0x1d :: 0x05 :: 0x60 :: sL_31
def sL_29 : List UInt8 := 0x2e :: 0x2a :: 0x1d :: 0x07 :: 0x60 :: 0x2e :: 0x2a :: 0x1d :: 0x08 :: 0x60 :: 0x2e :: 0xb6 :: 0x00 :: 0x49 :: 0x57 :: 0xa7 :: 0x03 :: 0xad :: 0x2b :: 0x2a :: 0x1d :: 0x04 :: 0x60 :: 0x2e :: sL_30
def sL_28 : List UInt8 := 0x2a :: 0x1d :: 0x08 :: 0x60 :: 0x2e :: 0xb6 :: 0x00 :: 0x46 :: 0x57 :: 0x2c :: 0x2a :: 0x1d :: 0x04 :: 0x60 :: 0x2e :: 0x2a :: 0x1d :: 0x05 :: 0x60 :: 0x2e :: 0x2a :: 0x1d :: 0x06 :: 0x60 :: sL_29
def sL_27 : List UInt8 := 0xa7 :: 0x03 :: 0xec :: 0x2b :: 0x2a :: 0x1d :: 0x04 :: 0x60 :: 0x2e :: 0x2a :: 0x1d :: 0x05 :: 0x60 :: 0x2e :: 0x2a :: 0x1d :: 0x06 :: 0x60 :: 0x2e :: 0x2a :: 0x1d :: 0x07 :: 0x60 :: 0x2e :: sL_28
def sL_26 : List UInt8 := 0x2a :: 0x1d :: 0x05 :: 0x60 :: 0x2e :: 0xb6 :: 0x00 :: 0x42 :: 0x57 :: 0x2c :: 0x2a :: 0x1d :: 0x04 :: 0x60 :: 0x2e :: 0x2a :: 0x1d :: 0x05 :: 0x60 :: 0x2e :: 0xb6 :: 0x00 :: 0x45 :: 0x57 :: sL_27
def sL_25 : List UInt8 := 0x2e :: 0xb6 :: 0x00 :: 0x3e :: 0x57 :: 0x2c :: 0x2a :: 0x1d :: 0x04 :: 0x60 :: 0x2e :: 0xb6 :: 0x00 :: 0x41 :: 0x57 :: 0xa7 :: 0x04 :: 0x0d :: 0x2b :: 0x2a :: 0x1d :: 0x04 :: 0x60 :: 0x2e :: sL_26
def sL_24 : List UInt8 := 0x57 :: 0x2c :: 0x2a :: 0x1d :: 0x04 :: 0x60 :: 0x2e :: 0x2a :: 0x1d :: 0x05 :: 0x60 :: 0x2e :: 0xb6 :: 0x00 :: 0x3d :: 0x57 :: 0xa7 :: 0x04 :: 0x24 :: 0x2b :: 0x2a :: 0x1d :: 0x04 :: 0x60 :: sL_25
def sL_23 : List UInt8 := 0x06 :: 0x60 :: 0x2e :: 0xb6 :: 0x00 :: 0x38 :: 0x57 :: 0xa7 :: 0x04 :: 0x45 :: 0x2b :: 0x2a :: 0x1d :: 0x04 :: 0x60 :: 0x2e :: 0x2a :: 0x1d :: 0x05 :: 0x60 :: 0x2e :: 0xb6 :: 0x00 :: 0x39 :: sL_24
def sL_22 : List UInt8 := 0x60 :: 0x2e :: 0x2a :: 0x1d :: 0x06 :: 0x60 :: 0x2e :: 0xb6 :: 0x00 :: 0x35 :: 0x57 :: 0x2c :: 0x2a :: 0x1d :: 0x04 :: 0x60 :: 0x2e :: 0x2a :: 0x1d :: 0x05 :: 0x60 :: 0x2e :: 0x2a :: 0x1d :: sL_23
def sL_21 : List UInt8 := 0x05 :: 0x60 :: 0x2e :: 0x2a :: 0x1d :: 0x06 :: 0x60 :: 0x2e :: 0xb6 :: 0x00 :: 0x34 :: 0x57 :: 0xa7 :: 0x04 :: 0x70 :: 0x2b :: 0x2a :: 0x1d :: 0x04 :: 0x60 :: 0x2e :: 0x2a :: 0x1d :: 0x05 :: sL_22
def sL_20 : List UInt8 := 0x60 :: 0x2e :: 0x2a :: 0x1d :: 0x05 :: 0x60 :: 0x2e :: 0x2a :: 0x1d :: 0x06 :: 0x60 :: 0x2e :: 0xb6 :: 0x00 :: 0x31 :: 0x57 :: 0x2c :: 0x2a :: 0x1d :: 0x04 :: 0x60 :: 0x2e :: 0x2a :: 0x1d :: sL_21
def sL_19 : List UInt8 := 0x04 :: 0x60 :: 0x2e :: 0x2a :: 0x1d :: 0x05 :: 0x60 :: 0x2e :: 0x2a :: 0x1d :: 0x06 :: 0x60 :: 0x2e :: 0xb6 :: 0x00 :: 0x30 :: 0x57 :: 0xa7 :: 0x04 :: 0x9b :: 0x2b :: 0x2a :: 0x1d :: 0x04 :: sL_20
def sL_18 : List UInt8 := 0xc6 :: 0x2b :: 0x2a :: 0x1d :: 0x04 :: 0x60 :: 0x2e :: 0x2a :: 0x1d :: 0x05 :: 0x60 :: 0x2e :: 0x2a :: 0x1d :: 0x06 :: 0x60 :: 0x2e :: 0xb6 :: 0x00 :: 0x2d :: 0x57 :: 0x2c :: 0x2a :: 0x1d :: sL_19
def sL_17 : List UInt8 := 0x04 :: 0x60 :: 0x2e :: 0x2a :: 0x1d :: 0x05 :: 0x60 :: 0x2e :: 0x2a :: 0x1d :: 0x06 :: 0x60 :: 0x2e :: 0x2a :: 0x1d :: 0x07 :: 0x60 :: 0x2e :: 0xb6 :: 0x00 :: 0x2c :: 0x57 :: 0xa7 :: 0x04 :: sL_18
def sL_16 : List UInt8 := 0x60 :: 0x2e :: 0x2a :: 0x1d :: 0x05 :: 0x60 :: 0x2e :: 0x2a :: 0x1d :: 0x06 :: 0x60 :: 0x2e :: 0x2a :: 0x1d :: 0x07 :: 0x60 :: 0x2e :: 0xb6 :: 0x00 :: 0x28 :: 0x57 :: 0x2c :: 0x2a :: 0x1d :: sL_17
def sL_15 : List UInt8 := 0x04 :: 0x60 :: 0x2e :: 0xb6 :: 0x00 :: 0x23 :: 0x57 :: 0x2c :: 0x2a :: 0x1d :: 0x04 :: 0x60 :: 0x2e :: 0xb6 :: 0x00 :: 0x27 :: 0x57 :: 0xa7 :: 0x04 :: 0xfb :: 0x2b :: 0x2a :: 0x1d :: 0x04 :: sL_16
def sL_14 : List UInt8 := 0x06 :: 0x60 :: 0x2e :: 0x2a :: 0x1d :: 0x07 :: 0x60 :: 0x2e :: 0x2a :: 0x1d :: 0x08 :: 0x60 :: 0x2e :: 0xb6 :: 0x00 :: 0x22 :: 0x9f :: 0x05 :: 0x14 :: 0x03 :: 0xac :: 0x2b :: 0x2a :: 0x1d :: sL_15
def sL_13 : List UInt8 := 0x07 :: 0x60 :: 0x2e :: 0x2a :: 0x1d :: 0x08 :: 0x60 :: 0x2e :: 0xb6 :: 0x00 :: 0x1e :: 0x2c :: 0x2a :: 0x1d :: 0x04 :: 0x60 :: 0x2e :: 0x2a :: 0x1d :: 0x05 :: 0x60 :: 0x2e :: 0x2a :: 0x1d :: sL_14
def sL_12 : List UInt8 := 0x00 :: 0x1d :: 0x57 :: 0xa7 :: 0x05 :: 0x51 :: 0x2b :: 0x2a :: 0x1d :: 0x04 :: 0x60 :: 0x2e :: 0x2a :: 0x1d :: 0x05 :: 0x60 :: 0x2e :: 0x2a :: 0x1d :: 0x06 :: 0x60 :: 0x2e :: 0x2a :: 0x1d :: sL_13
def sL_11 : List UInt8 := 0x06 :: 0x60 :: 0x2e :: 0xb6 :: 0x00 :: 0x1a :: 0x57 :: 0x2c :: 0x2a :: 0x1d :: 0x04 :: 0x60 :: 0x2e :: 0x2a :: 0x1d :: 0x05 :: 0x60 :: 0x2e :: 0x2a :: 0x1d :: 0x06 :: 0x60 :: 0x2e :: 0xb6 :: sL_12
def sL_10 : List UInt8 := 0x1d :: 0x06 :: 0x60 :: 0x2e :: 0xb6 :: 0x00 :: 0x19 :: 0x57 :: 0xa7 :: 0x05 :: 0x7c :: 0x2b :: 0x2a :: 0x1d :: 0x04 :: 0x60 :: 0x2e :: 0x2a :: 0x1d :: 0x05 :: 0x60 :: 0x2e :: 0x2a :: 0x1d :: sL_11
def sL_9 : List UInt8 := 0x05 :: 0x60 :: 0x2e :: 0x2a :: 0x1d :: 0x06 :: 0x60 :: 0x2e :: 0xb6 :: 0x00 :: 0x15 :: 0x57 :: 0x2c :: 0x2a :: 0x1d :: 0x04 :: 0x60 :: 0x2e :: 0x2a :: 0x1d :: 0x05 :: 0x60 :: 0x2e :: 0x2a :: sL_10
def sL_8 : List UInt8 := 0x00 :: 0x00 :: 0x05 :: 0xed :: 0x00 :: 0x00 :: 0x06 :: 0x0e :: 0x00 :: 0x00 :: 0x06 :: 0x25 :: 0x00 :: 0x00 :: 0x06 :: 0x3c :: 0x2b :: 0x2a :: 0x1d :: 0x04 :: 0x60 :: 0x2e :: 0x2a :: 0x1d :: sL_9
def sL_7 : List UInt8 := 0x00 :: 0x00 :: 0x05 :: 0x3b :: 0x00 :: 0x00 :: 0x05 :: 0x52 :: 0x00 :: 0x00 :: 0x05 :: 0x7d :: 0x00 :: 0x00 :: 0x05 :: 0x9e :: 0x00 :: 0x00 :: 0x05 :: 0xb5 :: 0x00 :: 0x00 :: 0x05 :: 0xcc :: sL_8
def sL_6 : List UInt8 := 0x00 :: 0x00 :: 0x04 :: 0x43 :: 0x00 :: 0x00 :: 0x04 :: 0x64 :: 0x00 :: 0x00 :: 0x04 :: 0x85 :: 0x00 :: 0x00 :: 0x04 :: 0xb0 :: 0x00 :: 0x00 :: 0x04 :: 0xd1 :: 0x00 :: 0x00 :: 0x05 :: 0x06 :: sL_7
def sL_5 : List UInt8 := 0x00 :: 0x00 :: 0x03 :: 0x69 :: 0x00 :: 0x00 :: 0x03 :: 0xa8 :: 0x00 :: 0x00 :: 0x03 :: 0xb5 :: 0x00 :: 0x00 :: 0x03 :: 0xc2 :: 0x00 :: 0x00 :: 0x03 :: 0xf7 :: 0x00 :: 0x00 :: 0x04 :: 0x18 :: sL_6
def sL_4 : List UInt8 := 0x00 :: 0x00 :: 0x02 :: 0x3f :: 0x00 :: 0x00 :: 0x02 :: 0x60 :: 0x00 :: 0x00 :: 0x02 :: 0x9f :: 0x00 :: 0x00 :: 0x02 :: 0xca :: 0x00 :: 0x00 :: 0x02 :: 0xeb :: 0x00 :: 0x00 :: 0x03 :: 0x2a :: sL_5
def sL_3 : List UInt8 := 0x00 :: 0x00 :: 0x01 :: 0x51 :: 0x00 :: 0x00 :: 0x01 :: 0x86 :: 0x00 :: 0x00 :: 0x01 :: 0xb1 :: 0x00 :: 0x00 :: 0x01 :: 0xdc :: 0x00 :: 0x00 :: 0x02 :: 0x07 :: 0x00 :: 0x00 :: 0x02 :: 0x28 :: sL_4
def sL_2 : List UInt8 := 0x00 :: 0x00 :: 0x00 :: 0x00 :: 0x00 :: 0x00 :: 0x00 :: 0x25 :: 0x00 :: 0x00 :: 0x00 :: 0xa5 :: 0x00 :: 0x00 :: 0x00 :: 0xd0 :: 0x00 :: 0x00 :: 0x00 :: 0xfb :: 0x00 :: 0x00 :: 0x01 :: 0x3a :: sL_3
def sL_1 : List UInt8 := 0x14 :: 0x4d :: 0x04 :: 0x3e :: 0x1d :: 0x2a :: 0xbe :: 0x10 :: 0x06 :: 0x64 :: 0xa3 :: 0x06 :: 0x58 :: 0x2a :: 0x1d :: 0x2e :: 0x10 :: 0x3f :: 0x7e :: 0xaa :: 0x00 :: 0x00 :: 0x06 :: 0x49 :: sL_2
def sL_0 : List UInt8 := 0xbb :: 0x00 :: 0x07 :: 0x59 :: 0x2a :: 0x03 :: 0xb8 :: 0x00 :: 0x09 :: 0xb7 :: 0x00 :: 0x0f :: 0x4c :: 0xbb :: 0x00 :: 0x12 :: 0x59 :: 0x2a :: 0x03 :: 0xb8 :: 0x00 :: 0x09 :: 0xb7 :: 0x00 :: sL_1
theorem sB_0 : dqA cL_law 0 sL_0 := dq_eq (by decide +kernel)
theorem sB_1 : dqA cL_law 24 sL_1 := dq_next sB_0 24 rfl
theorem sB_2 : dqA cL_law 48 sL_2 := dq_next sB_1 24 rfl
theorem sB_3 : dqA cL_law 72 sL_3 := dq_next sB_2 24 rfl
theorem sB_4 : dqA cL_law 96 sL_4 := dq_next sB_3 24 rfl
theorem sB_5 : dqA cL_law 120 sL_5 := dq_next sB_4 24 rfl
theorem sB_6 : dqA cL_law 144 sL_6 := dq_next sB_5 24 rfl
theorem sB_7 : dqA cL_law 168 sL_7 := dq_next sB_6 24 rfl
theorem sB_8 : dqA cL_law 192 sL_8 := dq_next sB_7 24 rfl
theorem sB_9 : dqA cL_law 216 sL_9 := dq_next sB_8 24 rfl
theorem sB_10 : dqA cL_law 240 sL_10 := dq_next sB_9 24 rfl
theorem sB_11 : dqA cL_law 264 sL_11 := dq_next sB_10 24 rfl
theorem sB_12 : dqA cL_law 288 sL_12 := dq_next sB_11 24 rfl
theorem sB_13 : dqA cL_law 312 sL_13 := dq_next sB_12 24 rfl
theorem sB_14 : dqA cL_law 336 sL_14 := dq_next sB_13 24 rfl
theorem sB_15 : dqA cL_law 360 sL_15 := dq_next sB_14 24 rfl
theorem dL_law_all2 : decode cL_law 39 = .ok (.iaload, 1) ∧ decode cL_law 40 = .ok (.bipush 63, 2) ∧ decode cL_law 42 = .ok (.iand, 1) ∧ decode cL_law 43 = .ok (.tableswitch 1609 0 37 #[165, 208, 251, 314, 337, 390, 433, 476, 519, 552, 575, 608, 671, 714, 747, 810, 873, 936, 949, 962, 1015, 1048, 1091, 1124, 1157, 1200, 1233, 1286, 1339, 1362, 1405, 1438, 1461, 1484, 1517, 1550, 1573, 1596], 165) ∧ decode cL_law 208 = .ok (.aload_n 1, 1) ∧ decode cL_law 209 = .ok (.aload_n 0, 1) ∧ decode cL_law 210 = .ok (.iload_n 3, 1) ∧ decode cL_law 211 = .ok (.iconst 1, 1) ∧ decode cL_law 212 = .ok (.iadd, 1) ∧ decode cL_law 213 = .ok (.iaload, 1) ∧ decode cL_law 214 = .ok (.aload_n 0, 1) ∧ decode cL_law 215 = .ok (.iload_n 3, 1) := ⟨dq_46 sB_1 15 rfl, by decide +kernel, by decide +kernel, by decide +kernel, dq_43 sB_8 16 rfl, dq_42 sB_8 17 rfl, dq_29 sB_8 18 rfl, dq_4 sB_8 19 rfl, dq_96 sB_8 20 rfl, dq_46 sB_8 21 rfl, dq_42 sB_8 22 rfl, dq_29 sB_8 23 rfl⟩
theorem dL_law_208 : decode cL_law 208 = .ok (.aload_n 1, 1) := dL_law_all2.2.2.2.2.1
theorem dL_law_209 : decode cL_law 209 = .ok (.aload_n 0, 1) := dL_law_all2.2.2.2.2.2.1
theorem dL_law_210 : decode cL_law 210 = .ok (.iload_n 3, 1) := dL_law_all2.2.2.2.2.2.2.1
theorem dL_law_211 : decode cL_law 211 = .ok (.iconst 1, 1) := dL_law_all2.2.2.2.2.2.2.2.1
theorem dL_law_212 : decode cL_law 212 = .ok (.iadd, 1) := dL_law_all2.2.2.2.2.2.2.2.2.1
theorem dL_law_213 : decode cL_law 213 = .ok (.iaload, 1) := dL_law_all2.2.2.2.2.2.2.2.2.2.1
theorem dL_law_214 : decode cL_law 214 = .ok (.aload_n 0, 1) := dL_law_all2.2.2.2.2.2.2.2.2.2.2.1
theorem dL_law_215 : decode cL_law 215 = .ok (.iload_n 3, 1) := dL_law_all2.2.2.2.2.2.2.2.2.2.2.2
theorem dL_law_all3 : decode cL_law 216 = .ok (.iconst 2, 1) ∧ decode cL_law 217 = .ok (.iadd, 1) ∧ decode cL_law 218 = .ok (.iaload, 1) ∧ decode cL_law 219 = .ok (.aload_n 0, 1) ∧ decode cL_law 220 = .ok (.iload_n 3, 1) ∧ decode cL_law 221 = .ok (.iconst 3, 1) ∧ decode cL_law 222 = .ok (.iadd, 1) ∧ decode cL_law 223 = .ok (.iaload, 1) ∧ decode cL_law 224 = .ok (.invokevirtual 21, 3) ∧ decode cL_law 227 = .ok (.pop, 1) ∧ decode cL_law 228 = .ok (.aload_n 2, 1) ∧ decode cL_law 229 = .ok (.aload_n 0, 1) := ⟨dq_5 sB_9 0 rfl, dq_96 sB_9 1 rfl, dq_46 sB_9 2 rfl, dq_42 sB_9 3 rfl, dq_29 sB_9 4 rfl, dq_6 sB_9 5 rfl, dq_96 sB_9 6 rfl, dq_46 sB_9 7 rfl, dq_182 sB_9 8 rfl 21 (by decide), dq_87 sB_9 11 rfl, dq_44 sB_9 12 rfl, dq_42 sB_9 13 rfl⟩
theorem dL_law_216 : decode cL_law 216 = .ok (.iconst 2, 1) := dL_law_all3.1
theorem dL_law_217 : decode cL_law 217 = .ok (.iadd, 1) := dL_law_all3.2.1
theorem dL_law_218 : decode cL_law 218 = .ok (.iaload, 1) := dL_law_all3.2.2.1
theorem dL_law_219 : decode cL_law 219 = .ok (.aload_n 0, 1) := dL_law_all3.2.2.2.1
theorem dL_law_220 : decode cL_law 220 = .ok (.iload_n 3, 1) := dL_law_all3.2.2.2.2.1
theorem dL_law_221 : decode cL_law 221 = .ok (.iconst 3, 1) := dL_law_all3.2.2.2.2.2.1
theorem dL_law_222 : decode cL_law 222 = .ok (.iadd, 1) := dL_law_all3.2.2.2.2.2.2.1
theorem dL_law_223 : decode cL_law 223 = .ok (.iaload, 1) := dL_law_all3.2.2.2.2.2.2.2.1
theorem dL_law_224 : decode cL_law 224 = .ok (.invokevirtual 21, 3) := dL_law_all3.2.2.2.2.2.2.2.2.1
theorem dL_law_227 : decode cL_law 227 = .ok (.pop, 1) := dL_law_all3.2.2.2.2.2.2.2.2.2.1
theorem dL_law_228 : decode cL_law 228 = .ok (.aload_n 2, 1) := dL_law_all3.2.2.2.2.2.2.2.2.2.2.1
theorem dL_law_229 : decode cL_law 229 = .ok (.aload_n 0, 1) := dL_law_all3.2.2.2.2.2.2.2.2.2.2.2
theorem dL_law_all4 : decode cL_law 230 = .ok (.iload_n 3, 1) ∧ decode cL_law 231 = .ok (.iconst 1, 1) ∧ decode cL_law 232 = .ok (.iadd, 1) ∧ decode cL_law 233 = .ok (.iaload, 1) ∧ decode cL_law 234 = .ok (.aload_n 0, 1) ∧ decode cL_law 235 = .ok (.iload_n 3, 1) ∧ decode cL_law 236 = .ok (.iconst 2, 1) ∧ decode cL_law 237 = .ok (.iadd, 1) ∧ decode cL_law 238 = .ok (.iaload, 1) ∧ decode cL_law 239 = .ok (.aload_n 0, 1) ∧ decode cL_law 240 = .ok (.iload_n 3, 1) ∧ decode cL_law 241 = .ok (.iconst 3, 1) := ⟨dq_29 sB_9 14 rfl, dq_4 sB_9 15 rfl, dq_96 sB_9 16 rfl, dq_46 sB_9 17 rfl, dq_42 sB_9 18 rfl, dq_29 sB_9 19 rfl, dq_5 sB_9 20 rfl, dq_96 sB_9 21 rfl, dq_46 sB_9 22 rfl, dq_42 sB_9 23 rfl, dq_29 sB_10 0 rfl, dq_6 sB_10 1 rfl⟩
theorem dL_law_230 : decode cL_law 230 = .ok (.iload_n 3, 1) := dL_law_all4.1
theorem dL_law_231 : decode cL_law 231 = .ok (.iconst 1, 1) := dL_law_all4.2.1
theorem dL_law_232 : decode cL_law 232 = .ok (.iadd, 1) := dL_law_all4.2.2.1
theorem dL_law_233 : decode cL_law 233 = .ok (.iaload, 1) := dL_law_all4.2.2.2.1
theorem dL_law_234 : decode cL_law 234 = .ok (.aload_n 0, 1) := dL_law_all4.2.2.2.2.1
theorem dL_law_235 : decode cL_law 235 = .ok (.iload_n 3, 1) := dL_law_all4.2.2.2.2.2.1
theorem dL_law_236 : decode cL_law 236 = .ok (.iconst 2, 1) := dL_law_all4.2.2.2.2.2.2.1
theorem dL_law_237 : decode cL_law 237 = .ok (.iadd, 1) := dL_law_all4.2.2.2.2.2.2.2.1
theorem dL_law_238 : decode cL_law 238 = .ok (.iaload, 1) := dL_law_all4.2.2.2.2.2.2.2.2.1
theorem dL_law_239 : decode cL_law 239 = .ok (.aload_n 0, 1) := dL_law_all4.2.2.2.2.2.2.2.2.2.1
theorem dL_law_240 : decode cL_law 240 = .ok (.iload_n 3, 1) := dL_law_all4.2.2.2.2.2.2.2.2.2.2.1
theorem dL_law_241 : decode cL_law 241 = .ok (.iconst 3, 1) := dL_law_all4.2.2.2.2.2.2.2.2.2.2.2
theorem dL_law_all5 : decode cL_law 242 = .ok (.iadd, 1) ∧ decode cL_law 243 = .ok (.iaload, 1) ∧ decode cL_law 244 = .ok (.invokevirtual 25, 3) ∧ decode cL_law 247 = .ok (.pop, 1) ∧ decode cL_law 248 = .ok (.goto 1404, 3) ∧ decode cL_law 251 = .ok (.aload_n 1, 1) ∧ decode cL_law 252 = .ok (.aload_n 0, 1) ∧ decode cL_law 253 = .ok (.iload_n 3, 1) ∧ decode cL_law 254 = .ok (.iconst 1, 1) ∧ decode cL_law 255 = .ok (.iadd, 1) ∧ decode cL_law 256 = .ok (.iaload, 1) ∧ decode cL_law 257 = .ok (.aload_n 0, 1) := ⟨dq_96 sB_10 2 rfl, dq_46 sB_10 3 rfl, dq_182 sB_10 4 rfl 25 (by decide), dq_87 sB_10 7 rfl, dq_167 sB_10 8 rfl 1404 (by decide), dq_43 sB_10 11 rfl, dq_42 sB_10 12 rfl, dq_29 sB_10 13 rfl, dq_4 sB_10 14 rfl, dq_96 sB_10 15 rfl, dq_46 sB_10 16 rfl, dq_42 sB_10 17 rfl⟩
theorem dL_law_242 : decode cL_law 242 = .ok (.iadd, 1) := dL_law_all5.1
theorem dL_law_243 : decode cL_law 243 = .ok (.iaload, 1) := dL_law_all5.2.1
theorem dL_law_244 : decode cL_law 244 = .ok (.invokevirtual 25, 3) := dL_law_all5.2.2.1
theorem dL_law_247 : decode cL_law 247 = .ok (.pop, 1) := dL_law_all5.2.2.2.1
theorem dL_law_248 : decode cL_law 248 = .ok (.goto 1404, 3) := dL_law_all5.2.2.2.2.1
theorem dL_law_251 : decode cL_law 251 = .ok (.aload_n 1, 1) := dL_law_all5.2.2.2.2.2.1
theorem dL_law_252 : decode cL_law 252 = .ok (.aload_n 0, 1) := dL_law_all5.2.2.2.2.2.2.1
theorem dL_law_253 : decode cL_law 253 = .ok (.iload_n 3, 1) := dL_law_all5.2.2.2.2.2.2.2.1
theorem dL_law_254 : decode cL_law 254 = .ok (.iconst 1, 1) := dL_law_all5.2.2.2.2.2.2.2.2.1
theorem dL_law_255 : decode cL_law 255 = .ok (.iadd, 1) := dL_law_all5.2.2.2.2.2.2.2.2.2.1
theorem dL_law_256 : decode cL_law 256 = .ok (.iaload, 1) := dL_law_all5.2.2.2.2.2.2.2.2.2.2.1
theorem dL_law_257 : decode cL_law 257 = .ok (.aload_n 0, 1) := dL_law_all5.2.2.2.2.2.2.2.2.2.2.2
theorem dL_law_all6 : decode cL_law 258 = .ok (.iload_n 3, 1) ∧ decode cL_law 259 = .ok (.iconst 2, 1) ∧ decode cL_law 260 = .ok (.iadd, 1) ∧ decode cL_law 261 = .ok (.iaload, 1) ∧ decode cL_law 262 = .ok (.aload_n 0, 1) ∧ decode cL_law 263 = .ok (.iload_n 3, 1) ∧ decode cL_law 264 = .ok (.iconst 3, 1) ∧ decode cL_law 265 = .ok (.iadd, 1) ∧ decode cL_law 266 = .ok (.iaload, 1) ∧ decode cL_law 267 = .ok (.invokevirtual 26, 3) ∧ decode cL_law 270 = .ok (.pop, 1) ∧ decode cL_law 271 = .ok (.aload_n 2, 1) := ⟨dq_29 sB_10 18 rfl, dq_5 sB_10 19 rfl, dq_96 sB_10 20 rfl, dq_46 sB_10 21 rfl, dq_42 sB_10 22 rfl, dq_29 sB_10 23 rfl, dq_6 sB_11 0 rfl, dq_96 sB_11 1 rfl, dq_46 sB_11 2 rfl, dq_182 sB_11 3 rfl 26 (by decide), dq_87 sB_11 6 rfl, dq_44 sB_11 7 rfl⟩
theorem dL_law_258 : decode cL_law 258 = .ok (.iload_n 3, 1) := dL_law_all6.1
theorem dL_law_259 : decode cL_law 259 = .ok (.iconst 2, 1) := dL_law_all6.2.1
theorem dL_law_260 : decode cL_law 260 = .ok (.iadd, 1) := dL_law_all6.2.2.1
theorem dL_law_261 : decode cL_law 261 = .ok (.iaload, 1) := dL_law_all6.2.2.2.1
theorem dL_law_262 : decode cL_law 262 = .ok (.aload_n 0, 1) := dL_law_all6.2.2.2.2.1
theorem dL_law_263 : decode cL_law 263 = .ok (.iload_n 3, 1) := dL_law_all6.2.2.2.2.2.1
theorem dL_law_264 : decode cL_law 264 = .ok (.iconst 3, 1) := dL_law_all6.2.2.2.2.2.2.1
theorem dL_law_265 : decode cL_law 265 = .ok (.iadd, 1) := dL_law_all6.2.2.2.2.2.2.2.1
theorem dL_law_266 : decode cL_law 266 = .ok (.iaload, 1) := dL_law_all6.2.2.2.2.2.2.2.2.1
theorem dL_law_267 : decode cL_law 267 = .ok (.invokevirtual 26, 3) := dL_law_all6.2.2.2.2.2.2.2.2.2.1
theorem dL_law_270 : decode cL_law 270 = .ok (.pop, 1) := dL_law_all6.2.2.2.2.2.2.2.2.2.2.1
theorem dL_law_271 : decode cL_law 271 = .ok (.aload_n 2, 1) := dL_law_all6.2.2.2.2.2.2.2.2.2.2.2
theorem dL_law_all7 : decode cL_law 272 = .ok (.aload_n 0, 1) ∧ decode cL_law 273 = .ok (.iload_n 3, 1) ∧ decode cL_law 274 = .ok (.iconst 1, 1) ∧ decode cL_law 275 = .ok (.iadd, 1) ∧ decode cL_law 276 = .ok (.iaload, 1) ∧ decode cL_law 277 = .ok (.aload_n 0, 1) ∧ decode cL_law 278 = .ok (.iload_n 3, 1) ∧ decode cL_law 279 = .ok (.iconst 2, 1) ∧ decode cL_law 280 = .ok (.iadd, 1) ∧ decode cL_law 281 = .ok (.iaload, 1) ∧ decode cL_law 282 = .ok (.aload_n 0, 1) ∧ decode cL_law 283 = .ok (.iload_n 3, 1) := ⟨dq_42 sB_11 8 rfl, dq_29 sB_11 9 rfl, dq_4 sB_11 10 rfl, dq_96 sB_11 11 rfl, dq_46 sB_11 12 rfl, dq_42 sB_11 13 rfl, dq_29 sB_11 14 rfl, dq_5 sB_11 15 rfl, dq_96 sB_11 16 rfl, dq_46 sB_11 17 rfl, dq_42 sB_11 18 rfl, dq_29 sB_11 19 rfl⟩
theorem dL_law_272 : decode cL_law 272 = .ok (.aload_n 0, 1) := dL_law_all7.1
theorem dL_law_273 : decode cL_law 273 = .ok (.iload_n 3, 1) := dL_law_all7.2.1
theorem dL_law_274 : decode cL_law 274 = .ok (.iconst 1, 1) := dL_law_all7.2.2.1
theorem dL_law_275 : decode cL_law 275 = .ok (.iadd, 1) := dL_law_all7.2.2.2.1
theorem dL_law_276 : decode cL_law 276 = .ok (.iaload, 1) := dL_law_all7.2.2.2.2.1
theorem dL_law_277 : decode cL_law 277 = .ok (.aload_n 0, 1) := dL_law_all7.2.2.2.2.2.1
theorem dL_law_278 : decode cL_law 278 = .ok (.iload_n 3, 1) := dL_law_all7.2.2.2.2.2.2.1
theorem dL_law_279 : decode cL_law 279 = .ok (.iconst 2, 1) := dL_law_all7.2.2.2.2.2.2.2.1
theorem dL_law_280 : decode cL_law 280 = .ok (.iadd, 1) := dL_law_all7.2.2.2.2.2.2.2.2.1
theorem dL_law_281 : decode cL_law 281 = .ok (.iaload, 1) := dL_law_all7.2.2.2.2.2.2.2.2.2.1
theorem dL_law_282 : decode cL_law 282 = .ok (.aload_n 0, 1) := dL_law_all7.2.2.2.2.2.2.2.2.2.2.1
theorem dL_law_283 : decode cL_law 283 = .ok (.iload_n 3, 1) := dL_law_all7.2.2.2.2.2.2.2.2.2.2.2
theorem dL_law_all8 : decode cL_law 284 = .ok (.iconst 3, 1) ∧ decode cL_law 285 = .ok (.iadd, 1) ∧ decode cL_law 286 = .ok (.iaload, 1) ∧ decode cL_law 287 = .ok (.invokevirtual 29, 3) ∧ decode cL_law 290 = .ok (.pop, 1) ∧ decode cL_law 291 = .ok (.goto 1361, 3) ∧ decode cL_law 294 = .ok (.aload_n 1, 1) ∧ decode cL_law 295 = .ok (.aload_n 0, 1) ∧ decode cL_law 296 = .ok (.iload_n 3, 1) ∧ decode cL_law 297 = .ok (.iconst 1, 1) ∧ decode cL_law 298 = .ok (.iadd, 1) ∧ decode cL_law 299 = .ok (.iaload, 1) := ⟨dq_6 sB_11 20 rfl, dq_96 sB_11 21 rfl, dq_46 sB_11 22 rfl, dq_182 sB_11 23 rfl 29 (by decide), dq_87 sB_12 2 rfl, dq_167 sB_12 3 rfl 1361 (by decide), dq_43 sB_12 6 rfl, dq_42 sB_12 7 rfl, dq_29 sB_12 8 rfl, dq_4 sB_12 9 rfl, dq_96 sB_12 10 rfl, dq_46 sB_12 11 rfl⟩
theorem dL_law_284 : decode cL_law 284 = .ok (.iconst 3, 1) := dL_law_all8.1
theorem dL_law_285 : decode cL_law 285 = .ok (.iadd, 1) := dL_law_all8.2.1
theorem dL_law_286 : decode cL_law 286 = .ok (.iaload, 1) := dL_law_all8.2.2.1
theorem dL_law_287 : decode cL_law 287 = .ok (.invokevirtual 29, 3) := dL_law_all8.2.2.2.1
theorem dL_law_290 : decode cL_law 290 = .ok (.pop, 1) := dL_law_all8.2.2.2.2.1
theorem dL_law_291 : decode cL_law 291 = .ok (.goto 1361, 3) := dL_law_all8.2.2.2.2.2.1
theorem dL_law_294 : decode cL_law 294 = .ok (.aload_n 1, 1) := dL_law_all8.2.2.2.2.2.2.1
theorem dL_law_295 : decode cL_law 295 = .ok (.aload_n 0, 1) := dL_law_all8.2.2.2.2.2.2.2.1
theorem dL_law_296 : decode cL_law 296 = .ok (.iload_n 3, 1) := dL_law_all8.2.2.2.2.2.2.2.2.1
theorem dL_law_297 : decode cL_law 297 = .ok (.iconst 1, 1) := dL_law_all8.2.2.2.2.2.2.2.2.2.1
theorem dL_law_298 : decode cL_law 298 = .ok (.iadd, 1) := dL_law_all8.2.2.2.2.2.2.2.2.2.2.1
theorem dL_law_299 : decode cL_law 299 = .ok (.iaload, 1) := dL_law_all8.2.2.2.2.2.2.2.2.2.2.2
theorem dL_law_all9 : decode cL_law 300 = .ok (.aload_n 0, 1) ∧ decode cL_law 301 = .ok (.iload_n 3, 1) ∧ decode cL_law 302 = .ok (.iconst 2, 1) ∧ decode cL_law 303 = .ok (.iadd, 1) ∧ decode cL_law 304 = .ok (.iaload, 1) ∧ decode cL_law 305 = .ok (.aload_n 0, 1) ∧ decode cL_law 306 = .ok (.iload_n 3, 1) ∧ decode cL_law 307 = .ok (.iconst 3, 1) ∧ decode cL_law 308 = .ok (.iadd, 1) ∧ decode cL_law 309 = .ok (.iaload, 1) ∧ decode cL_law 310 = .ok (.aload_n 0, 1) ∧ decode cL_law 311 = .ok (.iload_n 3, 1) := ⟨dq_42 sB_12 12 rfl, dq_29 sB_12 13 rfl, dq_5 sB_12 14 rfl, dq_96 sB_12 15 rfl, dq_46 sB_12 16 rfl, dq_42 sB_12 17 rfl, dq_29 sB_12 18 rfl, dq_6 sB_12 19 rfl, dq_96 sB_12 20 rfl, dq_46 sB_12 21 rfl, dq_42 sB_12 22 rfl, dq_29 sB_12 23 rfl⟩
theorem dL_law_300 : decode cL_law 300 = .ok (.aload_n 0, 1) := dL_law_all9.1
theorem dL_law_301 : decode cL_law 301 = .ok (.iload_n 3, 1) := dL_law_all9.2.1
theorem dL_law_302 : decode cL_law 302 = .ok (.iconst 2, 1) := dL_law_all9.2.2.1
theorem dL_law_303 : decode cL_law 303 = .ok (.iadd, 1) := dL_law_all9.2.2.2.1
theorem dL_law_304 : decode cL_law 304 = .ok (.iaload, 1) := dL_law_all9.2.2.2.2.1
theorem dL_law_305 : decode cL_law 305 = .ok (.aload_n 0, 1) := dL_law_all9.2.2.2.2.2.1
theorem dL_law_306 : decode cL_law 306 = .ok (.iload_n 3, 1) := dL_law_all9.2.2.2.2.2.2.1
theorem dL_law_307 : decode cL_law 307 = .ok (.iconst 3, 1) := dL_law_all9.2.2.2.2.2.2.2.1
theorem dL_law_308 : decode cL_law 308 = .ok (.iadd, 1) := dL_law_all9.2.2.2.2.2.2.2.2.1
theorem dL_law_309 : decode cL_law 309 = .ok (.iaload, 1) := dL_law_all9.2.2.2.2.2.2.2.2.2.1
theorem dL_law_310 : decode cL_law 310 = .ok (.aload_n 0, 1) := dL_law_all9.2.2.2.2.2.2.2.2.2.2.1
theorem dL_law_311 : decode cL_law 311 = .ok (.iload_n 3, 1) := dL_law_all9.2.2.2.2.2.2.2.2.2.2.2
theorem dL_law_all10 : decode cL_law 312 = .ok (.iconst 4, 1) ∧ decode cL_law 313 = .ok (.iadd, 1) ∧ decode cL_law 314 = .ok (.iaload, 1) ∧ decode cL_law 315 = .ok (.aload_n 0, 1) ∧ decode cL_law 316 = .ok (.iload_n 3, 1) ∧ decode cL_law 317 = .ok (.iconst 5, 1) ∧ decode cL_law 318 = .ok (.iadd, 1) ∧ decode cL_law 319 = .ok (.iaload, 1) ∧ decode cL_law 320 = .ok (.invokevirtual 30, 3) ∧ decode cL_law 323 = .ok (.aload_n 2, 1) ∧ decode cL_law 324 = .ok (.aload_n 0, 1) ∧ decode cL_law 325 = .ok (.iload_n 3, 1) := ⟨dq_7 sB_13 0 rfl, dq_96 sB_13 1 rfl, dq_46 sB_13 2 rfl, dq_42 sB_13 3 rfl, dq_29 sB_13 4 rfl, dq_8 sB_13 5 rfl, dq_96 sB_13 6 rfl, dq_46 sB_13 7 rfl, dq_182 sB_13 8 rfl 30 (by decide), dq_44 sB_13 11 rfl, dq_42 sB_13 12 rfl, dq_29 sB_13 13 rfl⟩
theorem dL_law_312 : decode cL_law 312 = .ok (.iconst 4, 1) := dL_law_all10.1
theorem dL_law_313 : decode cL_law 313 = .ok (.iadd, 1) := dL_law_all10.2.1
theorem dL_law_314 : decode cL_law 314 = .ok (.iaload, 1) := dL_law_all10.2.2.1
theorem dL_law_315 : decode cL_law 315 = .ok (.aload_n 0, 1) := dL_law_all10.2.2.2.1
theorem dL_law_316 : decode cL_law 316 = .ok (.iload_n 3, 1) := dL_law_all10.2.2.2.2.1
theorem dL_law_317 : decode cL_law 317 = .ok (.iconst 5, 1) := dL_law_all10.2.2.2.2.2.1
theorem dL_law_318 : decode cL_law 318 = .ok (.iadd, 1) := dL_law_all10.2.2.2.2.2.2.1
theorem dL_law_319 : decode cL_law 319 = .ok (.iaload, 1) := dL_law_all10.2.2.2.2.2.2.2.1
theorem dL_law_320 : decode cL_law 320 = .ok (.invokevirtual 30, 3) := dL_law_all10.2.2.2.2.2.2.2.2.1
theorem dL_law_323 : decode cL_law 323 = .ok (.aload_n 2, 1) := dL_law_all10.2.2.2.2.2.2.2.2.2.1
theorem dL_law_324 : decode cL_law 324 = .ok (.aload_n 0, 1) := dL_law_all10.2.2.2.2.2.2.2.2.2.2.1
theorem dL_law_325 : decode cL_law 325 = .ok (.iload_n 3, 1) := dL_law_all10.2.2.2.2.2.2.2.2.2.2.2
theorem dL_law_all11 : decode cL_law 326 = .ok (.iconst 1, 1) ∧ decode cL_law 327 = .ok (.iadd, 1) ∧ decode cL_law 328 = .ok (.iaload, 1) ∧ decode cL_law 329 = .ok (.aload_n 0, 1) ∧ decode cL_law 330 = .ok (.iload_n 3, 1) ∧ decode cL_law 331 = .ok (.iconst 2, 1) ∧ decode cL_law 332 = .ok (.iadd, 1) ∧ decode cL_law 333 = .ok (.iaload, 1) ∧ decode cL_law 334 = .ok (.aload_n 0, 1) ∧ decode cL_law 335 = .ok (.iload_n 3, 1) ∧ decode cL_law 336 = .ok (.iconst 3, 1) ∧ decode cL_law 337 = .ok (.iadd, 1) := ⟨dq_4 sB_13 14 rfl, dq_96 sB_13 15 rfl, dq_46 sB_13 16 rfl, dq_42 sB_13 17 rfl, dq_29 sB_13 18 rfl, dq_5 sB_13 19 rfl, dq_96 sB_13 20 rfl, dq_46 sB_13 21 rfl, dq_42 sB_13 22 rfl, dq_29 sB_13 23 rfl, dq_6 sB_14 0 rfl, dq_96 sB_14 1 rfl⟩
theorem dL_law_326 : decode cL_law 326 = .ok (.iconst 1, 1) := dL_law_all11.1
theorem dL_law_327 : decode cL_law 327 = .ok (.iadd, 1) := dL_law_all11.2.1
theorem dL_law_328 : decode cL_law 328 = .ok (.iaload, 1) := dL_law_all11.2.2.1
theorem dL_law_329 : decode cL_law 329 = .ok (.aload_n 0, 1) := dL_law_all11.2.2.2.1
theorem dL_law_330 : decode cL_law 330 = .ok (.iload_n 3, 1) := dL_law_all11.2.2.2.2.1
theorem dL_law_331 : decode cL_law 331 = .ok (.iconst 2, 1) := dL_law_all11.2.2.2.2.2.1
theorem dL_law_332 : decode cL_law 332 = .ok (.iadd, 1) := dL_law_all11.2.2.2.2.2.2.1
theorem dL_law_333 : decode cL_law 333 = .ok (.iaload, 1) := dL_law_all11.2.2.2.2.2.2.2.1
theorem dL_law_334 : decode cL_law 334 = .ok (.aload_n 0, 1) := dL_law_all11.2.2.2.2.2.2.2.2.1
theorem dL_law_335 : decode cL_law 335 = .ok (.iload_n 3, 1) := dL_law_all11.2.2.2.2.2.2.2.2.2.1
theorem dL_law_336 : decode cL_law 336 = .ok (.iconst 3, 1) := dL_law_all11.2.2.2.2.2.2.2.2.2.2.1
theorem dL_law_337 : decode cL_law 337 = .ok (.iadd, 1) := dL_law_all11.2.2.2.2.2.2.2.2.2.2.2
theorem dL_law_all12 : decode cL_law 338 = .ok (.iaload, 1) ∧ decode cL_law 339 = .ok (.aload_n 0, 1) ∧ decode cL_law 340 = .ok (.iload_n 3, 1) ∧ decode cL_law 341 = .ok (.iconst 4, 1) ∧ decode cL_law 342 = .ok (.iadd, 1) ∧ decode cL_law 343 = .ok (.iaload, 1) ∧ decode cL_law 344 = .ok (.aload_n 0, 1) ∧ decode cL_law 345 = .ok (.iload_n 3, 1) ∧ decode cL_law 346 = .ok (.iconst 5, 1) ∧ decode cL_law 347 = .ok (.iadd, 1) ∧ decode cL_law 348 = .ok (.iaload, 1) ∧ decode cL_law 349 = .ok (.invokevirtual 34, 3) := ⟨dq_46 sB_14 2 rfl, dq_42 sB_14 3 rfl, dq_29 sB_14 4 rfl, dq_7 sB_14 5 rfl, dq_96 sB_14 6 rfl, dq_46 sB_14 7 rfl, dq_42 sB_14 8 rfl, dq_29 sB_14 9 rfl, dq_8 sB_14 10 rfl, dq_96 sB_14 11 rfl, dq_46 sB_14 12 rfl, dq_182 sB_14 13 rfl 34 (by decide)⟩
theorem dL_law_338 : decode cL_law 338 = .ok (.iaload, 1) := dL_law_all12.1
theorem dL_law_339 : decode cL_law 339 = .ok (.aload_n 0, 1) := dL_law_all12.2.1
theorem dL_law_340 : decode cL_law 340 = .ok (.iload_n 3, 1) := dL_law_all12.2.2.1
theorem dL_law_341 : decode cL_law 341 = .ok (.iconst 4, 1) := dL_law_all12.2.2.2.1
theorem dL_law_342 : decode cL_law 342 = .ok (.iadd, 1) := dL_law_all12.2.2.2.2.1
theorem dL_law_343 : decode cL_law 343 = .ok (.iaload, 1) := dL_law_all12.2.2.2.2.2.1
theorem dL_law_344 : decode cL_law 344 = .ok (.aload_n 0, 1) := dL_law_all12.2.2.2.2.2.2.1
theorem dL_law_345 : decode cL_law 345 = .ok (.iload_n 3, 1) := dL_law_all12.2.2.2.2.2.2.2.1
theorem dL_law_346 : decode cL_law 346 = .ok (.iconst 5, 1) := dL_law_all12.2.2.2.2.2.2.2.2.1
theorem dL_law_347 : decode cL_law 347 = .ok (.iadd, 1) := dL_law_all12.2.2.2.2.2.2.2.2.2.1
theorem dL_law_348 : decode cL_law 348 = .ok (.iaload, 1) := dL_law_all12.2.2.2.2.2.2.2.2.2.2.1
theorem dL_law_349 : decode cL_law 349 = .ok (.invokevirtual 34, 3) := dL_law_all12.2.2.2.2.2.2.2.2.2.2.2
theorem dL_law_all13 : decode cL_law 352 = .ok (.if_icmp .eq 1300, 3) ∧ decode cL_law 355 = .ok (.iconst 0, 1) ∧ decode cL_law 356 = .ok (.ireturn, 1) ∧ decode cL_law 357 = .ok (.aload_n 1, 1) ∧ decode cL_law 358 = .ok (.aload_n 0, 1) ∧ decode cL_law 359 = .ok (.iload_n 3, 1) ∧ decode cL_law 360 = .ok (.iconst 1, 1) ∧ decode cL_law 361 = .ok (.iadd, 1) ∧ decode cL_law 362 = .ok (.iaload, 1) ∧ decode cL_law 363 = .ok (.invokevirtual 35, 3) ∧ decode cL_law 366 = .ok (.pop, 1) ∧ decode cL_law 367 = .ok (.aload_n 2, 1) := ⟨by decide +kernel, dq_3 sB_14 19 rfl, by decide +kernel, dq_43 sB_14 21 rfl, dq_42 sB_14 22 rfl, dq_29 sB_14 23 rfl, dq_4 sB_15 0 rfl, dq_96 sB_15 1 rfl, dq_46 sB_15 2 rfl, dq_182 sB_15 3 rfl 35 (by decide), dq_87 sB_15 6 rfl, dq_44 sB_15 7 rfl⟩
theorem dL_law_352 : decode cL_law 352 = .ok (.if_icmp .eq 1300, 3) := dL_law_all13.1
theorem dL_law_357 : decode cL_law 357 = .ok (.aload_n 1, 1) := dL_law_all13.2.2.2.1
theorem dL_law_358 : decode cL_law 358 = .ok (.aload_n 0, 1) := dL_law_all13.2.2.2.2.1
theorem dL_law_359 : decode cL_law 359 = .ok (.iload_n 3, 1) := dL_law_all13.2.2.2.2.2.1
theorem dL_law_360 : decode cL_law 360 = .ok (.iconst 1, 1) := dL_law_all13.2.2.2.2.2.2.1
theorem dL_law_361 : decode cL_law 361 = .ok (.iadd, 1) := dL_law_all13.2.2.2.2.2.2.2.1
theorem dL_law_362 : decode cL_law 362 = .ok (.iaload, 1) := dL_law_all13.2.2.2.2.2.2.2.2.1
theorem dL_law_363 : decode cL_law 363 = .ok (.invokevirtual 35, 3) := dL_law_all13.2.2.2.2.2.2.2.2.2.1
theorem dL_law_366 : decode cL_law 366 = .ok (.pop, 1) := dL_law_all13.2.2.2.2.2.2.2.2.2.2.1
theorem dL_law_367 : decode cL_law 367 = .ok (.aload_n 2, 1) := dL_law_all13.2.2.2.2.2.2.2.2.2.2.2
theorem dL_law_all14 : decode cL_law 368 = .ok (.aload_n 0, 1) ∧ decode cL_law 369 = .ok (.iload_n 3, 1) ∧ decode cL_law 370 = .ok (.iconst 1, 1) ∧ decode cL_law 371 = .ok (.iadd, 1) ∧ decode cL_law 372 = .ok (.iaload, 1) ∧ decode cL_law 373 = .ok (.invokevirtual 39, 3) ∧ decode cL_law 376 = .ok (.pop, 1) ∧ decode cL_law 377 = .ok (.goto 1275, 3) ∧ decode cL_law 380 = .ok (.aload_n 1, 1) ∧ decode cL_law 381 = .ok (.aload_n 0, 1) ∧ decode cL_law 382 = .ok (.iload_n 3, 1) ∧ decode cL_law 383 = .ok (.iconst 1, 1) := ⟨dq_42 sB_15 8 rfl, dq_29 sB_15 9 rfl, dq_4 sB_15 10 rfl, dq_96 sB_15 11 rfl, dq_46 sB_15 12 rfl, dq_182 sB_15 13 rfl 39 (by decide), dq_87 sB_15 16 rfl, dq_167 sB_15 17 rfl 1275 (by decide), dq_43 sB_15 20 rfl, dq_42 sB_15 21 rfl, dq_29 sB_15 22 rfl, dq_4 sB_15 23 rfl⟩
theorem dL_law_368 : decode cL_law 368 = .ok (.aload_n 0, 1) := dL_law_all14.1
theorem dL_law_369 : decode cL_law 369 = .ok (.iload_n 3, 1) := dL_law_all14.2.1
theorem dL_law_370 : decode cL_law 370 = .ok (.iconst 1, 1) := dL_law_all14.2.2.1
theorem dL_law_371 : decode cL_law 371 = .ok (.iadd, 1) := dL_law_all14.2.2.2.1
theorem dL_law_372 : decode cL_law 372 = .ok (.iaload, 1) := dL_law_all14.2.2.2.2.1
theorem dL_law_373 : decode cL_law 373 = .ok (.invokevirtual 39, 3) := dL_law_all14.2.2.2.2.2.1
theorem dL_law_376 : decode cL_law 376 = .ok (.pop, 1) := dL_law_all14.2.2.2.2.2.2.1
theorem dL_law_377 : decode cL_law 377 = .ok (.goto 1275, 3) := dL_law_all14.2.2.2.2.2.2.2.1
set_option maxHeartbeats 4000000 in
set_option maxRecDepth 100000 in
theorem law_case_0 {p : Program} {l : Launch} {e : Env} {s : State} {m : MethodId} {below : List Frame} {meth : Method} {c : Code} {D : va_G} {cI cY cJ cQ : ClassId} {b L aK aV : Nat} {xs : Nat → Int32} {ad rw md : Nat → Nat} {sd i : Int32} {nx : Nat → Int32} {fx rs : Nat → Nat → Int32} {lo : Nat → Int64} {ny : Nat → Int32} {fy : Nat → Nat → Int32} {fl : Nat → Int64} {H : Heap} {locs : List Loc} {ls : Array Slot} (C0 : lawC p s m meth c b L xs D cI cY cJ cQ aK aV) (I : inv nx fx rs ny fy) (hP : va_P D vwCl (wX ad rw sd cI cY cJ cQ nx fx rs lo ++ wM md sd cI cY cJ cQ ny fy fl) H) (hD : va_D (fun q : Nat => s.heap.size ≤ q) (wX ad rw sd cI cY cJ cQ nx fx rs lo ++ wM md sd cI cY cJ cQ ny fy fl)) (hS : va_S (fun q : Nat => s.heap.size ≤ q) s.heap H locs) (hl : lv_has ls 4 [(0, .ref b), (1, .ref (ad 0)), (2, .ref (md 64)), (3, .int i)]) (hi1 : 1 ≤ i.toInt) (hi2 : i.toInt + 5 < L) (kk : ∀ (nx : Nat → Int32) (fx rs : Nat → Nat → Int32) (lo : Nat → Int64) (ny : Nat → Int32) (fy : Nat → Nat → Int32) (fl : Nat → Int64) (H : Heap) (locs : List Loc) (ls : Array Slot), inv nx fx rs ny fy → va_P D vwCl (wX ad rw sd cI cY cJ cQ nx fx rs lo ++ wM md sd cI cY cJ cQ ny fy fl) H → va_D (fun q : Nat => s.heap.size ≤ q) (wX ad rw sd cI cY cJ cQ nx fx rs lo ++ wM md sd cI cY cJ cQ ny fy fl) → va_S (fun q : Nat => s.heap.size ≤ q) s.heap H locs → lv_has ls 4 [(0, .ref b), (1, .ref (ad 0)), (2, .ref (md 64)), (3, .int i)] → W p l e room_1 s m #[Value.ref b] below meth c H locs 107 4890 (lw_Z below #[Value.ref b] s) (F0 m 1652 ls [])) : W p l e room_1 s m #[Value.ref b] below meth c H locs 107 4890 (lw_Z below #[Value.ref b] s) (F0 m 208 ls []) := by
  obtain ⟨C1, hK, hN, hT, hL⟩ := C0
  obtain ⟨hx, hb, hr, hml, hown, hts0, hX, hbl, hlocks, hgv⟩ := C1
  have hA : ∀ q : Nat, s.heap.size ≤ q → (fun q : Nat => s.heap.size ≤ q) q := fun _ h => h
  have hbA : ¬ (fun q : Nat => s.heap.size ≤ q) b := Nat.not_le.mpr hbl
  have hts : ∀ w ∈ wsL_law, w.before #[Value.ref b] s = true := fun w h => hts0 w (wsL_law_in w h)
  replace hown : s.vm.findClass RL = some m.cls := hown
  replace hb : c.code = cL_law := hb
  have hak1 : vp_in (i + 1) L := law_in hi1 hi2 hL (by decide)
  obtain ⟨xk1, exk1⟩ : ∃ y : Int32, y = xs (i + 1).toNatClampNeg := ⟨_, rfl⟩
  have hak2 : vp_in (i + 2) L := law_in hi1 hi2 hL (by decide)
  obtain ⟨xk2, exk2⟩ : ∃ y : Int32, y = xs (i + 2).toNatClampNeg := ⟨_, rfl⟩
  have hak3 : vp_in (i + 3) L := law_in hi1 hi2 hL (by decide)
  obtain ⟨xk3, exk3⟩ : ∃ y : Int32, y = xs (i + 3).toNatClampNeg := ⟨_, rfl⟩
  refine inv_el I ?_
  intro Xhna Xhnb XH XD XV XN Xcna Xcnb XF Xpna Xpnb XG XO XW Xgna Xgnb XJ Xlna Xlnb Xdla Xdlb Xana Xanb Xuna Xunb XU Xlca Xlcb Xtna Xtnb XS Mhna Mhnb MH MS Mmlna Mmlnb Mmtna Mmtnb Chn Cho Chc Chp Chs Ccn Cfo Cwo Cpn Cpk Cpf Cpo Cpd Cpe Cgn Cgk Cgs Cgd Cge Can Cak Cah Cay Caz Cun Cuk Cuy Cuw Cum Clc Clp Cla Clb Caw Ciw Cln Ctd Cro Cmtn Cmtr Cmst Csh
  have Tcn := i_eq Ccn
  have Tpn := i_eq Cpn
  have Tgn := i_eq Cgn
  have Tan := i_eq Can
  have Tun := i_eq Cun
  have Tlc := i_eq Clc
  have Tln := i_eq Cln
  refine lv_aload_n hx hb dL_law_208 rfl (lv_at hl 1 rfl) ?_
  refine law_arg (v := 1) hx hb hX hbl hbA hS (lv_at hl 0 rfl) (lv_at hl 3 rfl) (by decide) hak1 exk1 dL_law_209 dL_law_210 dL_law_211 dL_law_212 dL_law_213 ?_
  refine law_arg (v := 2) hx hb hX hbl hbA hS (lv_at hl 0 rfl) (lv_at hl 3 rfl) (by decide) hak2 exk2 dL_law_214 dL_law_215 dL_law_216 dL_law_217 dL_law_218 ?_
  refine law_arg (v := 3) hx hb hX hbl hbA hS (lv_at hl 0 rfl) (lv_at hl 3 rfl) (by decide) hak3 exk3 dL_law_219 dL_law_220 dL_law_221 dL_law_222 dL_law_223 ?_
  refine st_iU (va_runV (C := RX10) (As := [.int xk1, .int xk2, .int xk3]) (rest := []) ⟨hx, hb, hml, hown, hts⟩ (ct_X10_sheet l D cI cY cJ cQ _ ad rw rs (nx 0) (nx 1) (nx 2) (fx 1) (fx 2) xk1 xk2 xk3) (cwV 3 hts gL_law_X10_sheet rfl rfl rfl ⟨rfl, cdX10_sheet⟩ ⟨Nat.le_of_ble_eq_true rfl, Nat.le_of_ble_eq_true rfl⟩) (cPreV (hP.sub [2, 3, 4, 5, 6, 7, 8, 9, 0, 10, 11, 12, 13] rfl) hK (hD.sub [2, 3, 4, 5, 6, 7, 8, 9, 0, 10, 11, 12, 13] (by decide +kernel) rfl) hN (ci := 10) (q0 := 8) rfl rfl) rfl rfl hl.1 rfl (lv_room (Nat.le_of_ble_eq_true rfl)) dL_law_224 ⟨Nat.le_of_ble_eq_true rfl, Nat.le_of_ble_eq_true rfl⟩) hP hD hS hA [2, 3, 4, 5, 6, 7, 8, 9, 0, 10, 11, 12, 13] rfl (fun _ => rfl) (fun r3 u1 H locs hw2 => ?_)
  clear hP hS
  intro hP hS
  obtain ⟨lf_4, rs_5, sl_6, ss_7⟩ := u1
  replace hw2 : (r3, (lf_4, rs_5, sl_6, ss_7)) = sp_sheet (nx 2) rs (fx 1) (fx 2) xk1 xk2 xk3 := hw2
  have hw2s := sp_sheet_ok hw2 XS
  have hw2r := sp_sheet_an hw2
  refine lv_pop hx hb dL_law_227 rfl ?_
  have hPx : va_P D vwCl (wX ad rw sd cI cY cJ cQ (upd nx 2 lf_4) (upR (upR fx 1 sl_6) 2 ss_7) rs_5 lo ++ wM md sd cI cY cJ cQ ny fy fl) H := hP
  have hDx : va_D (fun q : Nat => s.heap.size ≤ q) (wX ad rw sd cI cY cJ cQ (upd nx 2 lf_4) (upR (upR fx 1 sl_6) 2 ss_7) rs_5 lo ++ wM md sd cI cY cJ cQ ny fy fl) := wXM_D hD
  have hP := hPx.comm
  have hD := hDx.comm
  refine lv_aload_n hx hb dL_law_228 rfl (lv_at hl 2 rfl) ?_
  refine law_arg (v := 1) hx hb hX hbl hbA hS (lv_at hl 0 rfl) (lv_at hl 3 rfl) (by decide) hak1 exk1 dL_law_229 dL_law_230 dL_law_231 dL_law_232 dL_law_233 ?_
  refine law_arg (v := 2) hx hb hX hbl hbA hS (lv_at hl 0 rfl) (lv_at hl 3 rfl) (by decide) hak2 exk2 dL_law_234 dL_law_235 dL_law_236 dL_law_237 dL_law_238 ?_
  refine law_arg (v := 3) hx hb hX hbl hbA hS (lv_at hl 0 rfl) (lv_at hl 3 rfl) (by decide) hak3 exk3 dL_law_239 dL_law_240 dL_law_241 dL_law_242 dL_law_243 ?_
  refine st_iU (va_runV (C := RX11) (As := [.int xk1, .int xk2, .int xk3]) (rest := []) ⟨hx, hb, hml, hown, hts⟩ (ct_X11_sheet l D cI cY cJ cQ _ md sd (ny 0) (ny 1) (ny 2) (ny 3) (ny 4) (ny 5) (ny 6) (ny 7) (ny 8) (ny 9) (ny 10) (ny 11) (ny 12) (ny 13) (ny 14) (ny 15) (ny 16) (ny 17) (ny 18) (ny 19) (ny 20) (ny 21) (ny 22) (fy 0) (fy 1) (fy 2) xk1 xk2 xk3 MS) (cwV 3 hts gL_law_X11_sheet rfl rfl rfl ⟨rfl, cdX11_sheet⟩ ⟨Nat.le_of_ble_eq_true rfl, Nat.le_of_ble_eq_true rfl⟩) (cPreV (hP.sub [0, 1, 2, 3] rfl) hK (hD.sub [0, 1, 2, 3] (by decide +kernel) rfl) hN (ci := 11) (q0 := 0) rfl rfl) rfl rfl hl.1 rfl (lv_room (Nat.le_of_ble_eq_true rfl)) dL_law_244 ⟨Nat.le_of_ble_eq_true rfl, Nat.le_of_ble_eq_true rfl⟩) hP hD hS hA [0, 1, 2, 3] rfl (fun _ => rfl) (fun r10 u8 H locs hw9 => ?_)
  clear hP hS
  intro hP hS
  obtain ⟨mst_11, ml_12, mm_13, mi_14⟩ := u8
  replace hw9 : r10 = an_sheet xk1 xk2 xk3 ∧ okM mm_13 ∧ ps_sheet (ny 1) (fy 0) (fy 1) (fy 2) xk1 xk2 xk3 mst_11 ml_12 mm_13 mi_14 := hw9
  obtain ⟨hw9r, hw9s, hw9p⟩ := hw9
  have e90 := hw2r.trans hw9r.symm
  obtain ⟨e9sh, e9st⟩ := shR_sheet Csh hw2 hw9p
  refine lv_pop hx hb dL_law_247 rfl ?_
  refine lv_goto (tgt := 1652) hx hb dL_law_248 (by decide) ?_
  have hPm : va_P D vwCl (wM md sd cI cY cJ cQ (upd (upd ny 0 0) 1 mst_11) (upR (upR (upR fy 0 ml_12) 1 mm_13) 2 mi_14) fl ++ wX ad rw sd cI cY cJ cQ (upd nx 2 lf_4) (upR (upR fx 1 sl_6) 2 ss_7) rs_5 lo) H := hP
  have hDm : va_D (fun q : Nat => s.heap.size ≤ q) (wM md sd cI cY cJ cQ (upd (upd ny 0 0) 1 mst_11) (upR (upR (upR fy 0 ml_12) 1 mm_13) 2 mi_14) fl ++ wX ad rw sd cI cY cJ cQ (upd nx 2 lf_4) (upR (upR fx 1 sl_6) 2 ss_7) rs_5 lo) := wMX_D hD
  exact kk (upd nx 2 lf_4) (upR (upR fx 1 sl_6) 2 ss_7) rs_5 lo (upd (upd ny 0 0) 1 mst_11) (upR (upR (upR fy 0 ml_12) 1 mm_13) 2 mi_14) fl H locs ls ⟨Xhna, Xhnb, XH, XD, XV, XN, Xcna, Xcnb, XF, Xpna, Xpnb, XG, XO, XW, Xgna, Xgnb, XJ, Xlna, Xlnb, Xdla, Xdlb, Xana, Xanb, Xuna, Xunb, XU, Xlca, Xlcb, Xtna, Xtnb, (show okS (ss_7) by assumption), Mhna, Mhnb, MH, (show okM (mm_13) by assumption), Mmlna, Mmlnb, Mmtna, Mmtnb, Chn, Cho, Chc, Chp, Chs, Ccn, Cfo, Cwo, Cpn, Cpk, Cpf, Cpo, Cpd, Cpe, Cgn, Cgk, Cgs, Cgd, Cge, Can, Cak, Cah, Cay, Caz, Cun, Cuk, Cuy, Cuw, Cum, Clc, Clp, Cla, Clb, Caw, Ciw, Cln, Ctd, Cro, Cmtn, Cmtr, (show (mst_11) = (lf_4) from e9st Cmst), (show shR (ml_12) (mm_13) (mi_14) (sl_6) (ss_7) rs_5 from e9sh)⟩ hPm.comm hDm.comm hS hl

set_option maxHeartbeats 4000000 in
set_option maxRecDepth 100000 in
theorem law_case_1 {p : Program} {l : Launch} {e : Env} {s : State} {m : MethodId} {below : List Frame} {meth : Method} {c : Code} {D : va_G} {cI cY cJ cQ : ClassId} {b L aK aV : Nat} {xs : Nat → Int32} {ad rw md : Nat → Nat} {sd i : Int32} {nx : Nat → Int32} {fx rs : Nat → Nat → Int32} {lo : Nat → Int64} {ny : Nat → Int32} {fy : Nat → Nat → Int32} {fl : Nat → Int64} {H : Heap} {locs : List Loc} {ls : Array Slot} (C0 : lawC p s m meth c b L xs D cI cY cJ cQ aK aV) (I : inv nx fx rs ny fy) (hP : va_P D vwCl (wX ad rw sd cI cY cJ cQ nx fx rs lo ++ wM md sd cI cY cJ cQ ny fy fl) H) (hD : va_D (fun q : Nat => s.heap.size ≤ q) (wX ad rw sd cI cY cJ cQ nx fx rs lo ++ wM md sd cI cY cJ cQ ny fy fl)) (hS : va_S (fun q : Nat => s.heap.size ≤ q) s.heap H locs) (hl : lv_has ls 4 [(0, .ref b), (1, .ref (ad 0)), (2, .ref (md 64)), (3, .int i)]) (hi1 : 1 ≤ i.toInt) (hi2 : i.toInt + 5 < L) (kk : ∀ (nx : Nat → Int32) (fx rs : Nat → Nat → Int32) (lo : Nat → Int64) (ny : Nat → Int32) (fy : Nat → Nat → Int32) (fl : Nat → Int64) (H : Heap) (locs : List Loc) (ls : Array Slot), inv nx fx rs ny fy → va_P D vwCl (wX ad rw sd cI cY cJ cQ nx fx rs lo ++ wM md sd cI cY cJ cQ ny fy fl) H → va_D (fun q : Nat => s.heap.size ≤ q) (wX ad rw sd cI cY cJ cQ nx fx rs lo ++ wM md sd cI cY cJ cQ ny fy fl) → va_S (fun q : Nat => s.heap.size ≤ q) s.heap H locs → lv_has ls 4 [(0, .ref b), (1, .ref (ad 0)), (2, .ref (md 64)), (3, .int i)] → W p l e room_1 s m #[Value.ref b] below meth c H locs 107 4890 (lw_Z below #[Value.ref b] s) (F0 m 1652 ls [])) : W p l e room_1 s m #[Value.ref b] below meth c H locs 107 4890 (lw_Z below #[Value.ref b] s) (F0 m 251 ls []) := by
  obtain ⟨C1, hK, hN, hT, hL⟩ := C0
  obtain ⟨hx, hb, hr, hml, hown, hts0, hX, hbl, hlocks, hgv⟩ := C1
  have hA : ∀ q : Nat, s.heap.size ≤ q → (fun q : Nat => s.heap.size ≤ q) q := fun _ h => h
  have hbA : ¬ (fun q : Nat => s.heap.size ≤ q) b := Nat.not_le.mpr hbl
  have hts : ∀ w ∈ wsL_law, w.before #[Value.ref b] s = true := fun w h => hts0 w (wsL_law_in w h)
  replace hown : s.vm.findClass RL = some m.cls := hown
  replace hb : c.code = cL_law := hb
  have hak1 : vp_in (i + 1) L := law_in hi1 hi2 hL (by decide)
  obtain ⟨xk1, exk1⟩ : ∃ y : Int32, y = xs (i + 1).toNatClampNeg := ⟨_, rfl⟩
  have hak2 : vp_in (i + 2) L := law_in hi1 hi2 hL (by decide)
  obtain ⟨xk2, exk2⟩ : ∃ y : Int32, y = xs (i + 2).toNatClampNeg := ⟨_, rfl⟩
  have hak3 : vp_in (i + 3) L := law_in hi1 hi2 hL (by decide)
  obtain ⟨xk3, exk3⟩ : ∃ y : Int32, y = xs (i + 3).toNatClampNeg := ⟨_, rfl⟩
  refine inv_el I ?_
  intro Xhna Xhnb XH XD XV XN Xcna Xcnb XF Xpna Xpnb XG XO XW Xgna Xgnb XJ Xlna Xlnb Xdla Xdlb Xana Xanb Xuna Xunb XU Xlca Xlcb Xtna Xtnb XS Mhna Mhnb MH MS Mmlna Mmlnb Mmtna Mmtnb Chn Cho Chc Chp Chs Ccn Cfo Cwo Cpn Cpk Cpf Cpo Cpd Cpe Cgn Cgk Cgs Cgd Cge Can Cak Cah Cay Caz Cun Cuk Cuy Cuw Cum Clc Clp Cla Clb Caw Ciw Cln Ctd Cro Cmtn Cmtr Cmst Csh
  have Tcn := i_eq Ccn
  have Tpn := i_eq Cpn
  have Tgn := i_eq Cgn
  have Tan := i_eq Can
  have Tun := i_eq Cun
  have Tlc := i_eq Clc
  have Tln := i_eq Cln
  refine lv_aload_n hx hb dL_law_251 rfl (lv_at hl 1 rfl) ?_
  refine law_arg (v := 1) hx hb hX hbl hbA hS (lv_at hl 0 rfl) (lv_at hl 3 rfl) (by decide) hak1 exk1 dL_law_252 dL_law_253 dL_law_254 dL_law_255 dL_law_256 ?_
  refine law_arg (v := 2) hx hb hX hbl hbA hS (lv_at hl 0 rfl) (lv_at hl 3 rfl) (by decide) hak2 exk2 dL_law_257 dL_law_258 dL_law_259 dL_law_260 dL_law_261 ?_
  refine law_arg (v := 3) hx hb hX hbl hbA hS (lv_at hl 0 rfl) (lv_at hl 3 rfl) (by decide) hak3 exk3 dL_law_262 dL_law_263 dL_law_264 dL_law_265 dL_law_266 ?_
  refine st_iU (va_runV (C := RX10) (As := [.int xk1, .int xk2, .int xk3]) (rest := []) ⟨hx, hb, hml, hown, hts⟩ (ct_X10_set l D cI cY cJ cQ _ ad rw rs (nx 0) (nx 1) (nx 2) (fx 1) (fx 2) xk1 xk2 xk3 XS) (cwV 3 hts gL_law_X10_set rfl rfl rfl ⟨rfl, cdX10_set⟩ ⟨Nat.le_of_ble_eq_true rfl, Nat.le_of_ble_eq_true rfl⟩) (cPreV (hP.sub [2, 3, 4, 5, 6, 7, 8, 9, 0, 10, 11, 12, 13] rfl) hK (hD.sub [2, 3, 4, 5, 6, 7, 8, 9, 0, 10, 11, 12, 13] (by decide +kernel) rfl) hN (ci := 10) (q0 := 8) rfl rfl) rfl rfl hl.1 rfl (lv_room (Nat.le_of_ble_eq_true rfl)) dL_law_267 ⟨Nat.le_of_ble_eq_true rfl, Nat.le_of_ble_eq_true rfl⟩) hP hD hS hA [2, 3, 4, 5, 6, 7, 8, 9, 0, 10, 11, 12, 13] rfl (fun _ => rfl) (fun r3 u1 H locs hw2 => ?_)
  clear hP hS
  intro hP hS
  obtain ⟨lf_4, rs_5⟩ := u1
  replace hw2 : (r3, (lf_4, rs_5)) = sp_set (nx 2) rs (fx 1) (fx 2) xk1 xk2 xk3 := hw2
  refine lv_pop hx hb dL_law_270 rfl ?_
  have hPx : va_P D vwCl (wX ad rw sd cI cY cJ cQ (upd nx 2 lf_4) fx rs_5 lo ++ wM md sd cI cY cJ cQ ny fy fl) H := hP
  have hDx : va_D (fun q : Nat => s.heap.size ≤ q) (wX ad rw sd cI cY cJ cQ (upd nx 2 lf_4) fx rs_5 lo ++ wM md sd cI cY cJ cQ ny fy fl) := wXM_D hD
  have hP := hPx.comm
  have hD := hDx.comm
  refine lv_aload_n hx hb dL_law_271 rfl (lv_at hl 2 rfl) ?_
  refine law_arg (v := 1) hx hb hX hbl hbA hS (lv_at hl 0 rfl) (lv_at hl 3 rfl) (by decide) hak1 exk1 dL_law_272 dL_law_273 dL_law_274 dL_law_275 dL_law_276 ?_
  refine law_arg (v := 2) hx hb hX hbl hbA hS (lv_at hl 0 rfl) (lv_at hl 3 rfl) (by decide) hak2 exk2 dL_law_277 dL_law_278 dL_law_279 dL_law_280 dL_law_281 ?_
  refine law_arg (v := 3) hx hb hX hbl hbA hS (lv_at hl 0 rfl) (lv_at hl 3 rfl) (by decide) hak3 exk3 dL_law_282 dL_law_283 dL_law_284 dL_law_285 dL_law_286 ?_
  refine st_iU (va_runV (C := RX11) (As := [.int xk1, .int xk2, .int xk3]) (rest := []) ⟨hx, hb, hml, hown, hts⟩ (ct_X11_set l D cI cY cJ cQ _ md sd (ny 0) (ny 1) (ny 2) (ny 3) (ny 4) (ny 5) (ny 6) (ny 7) (ny 8) (ny 9) (ny 10) (ny 11) (ny 12) (ny 13) (ny 14) (ny 15) (ny 16) (ny 17) (ny 18) (ny 19) (ny 20) (ny 21) (ny 22) (fy 0) (fy 1) (fy 2) xk1 xk2 xk3 MS) (cwV 3 hts gL_law_X11_set rfl rfl rfl ⟨rfl, cdX11_set⟩ ⟨Nat.le_of_ble_eq_true rfl, Nat.le_of_ble_eq_true rfl⟩) (cPreV (hP.sub [0, 1, 2, 3] rfl) hK (hD.sub [0, 1, 2, 3] (by decide +kernel) rfl) hN (ci := 11) (q0 := 0) rfl rfl) rfl rfl hl.1 rfl (lv_room (Nat.le_of_ble_eq_true rfl)) dL_law_287 ⟨Nat.le_of_ble_eq_true rfl, Nat.le_of_ble_eq_true rfl⟩) hP hD hS hA [0, 1, 2, 3] rfl (fun _ => rfl) (fun r8 u6 H locs hw7 => ?_)
  clear hP hS
  intro hP hS
  obtain ⟨mst_9, mi_10⟩ := u6
  replace hw7 : ps_set (ny 1) (fy 0) (fy 1) (fy 2) xk1 xk2 xk3 r8 mst_9 mi_10 := hw7
  obtain ⟨e90, e9sh, e9st⟩ := shR_set Csh MS hw2 hw7
  refine lv_pop hx hb dL_law_290 rfl ?_
  refine lv_goto (tgt := 1652) hx hb dL_law_291 (by decide) ?_
  have hPm : va_P D vwCl (wM md sd cI cY cJ cQ (upd (upd ny 0 0) 1 mst_9) (upR fy 2 mi_10) fl ++ wX ad rw sd cI cY cJ cQ (upd nx 2 lf_4) fx rs_5 lo) H := hP
  have hDm : va_D (fun q : Nat => s.heap.size ≤ q) (wM md sd cI cY cJ cQ (upd (upd ny 0 0) 1 mst_9) (upR fy 2 mi_10) fl ++ wX ad rw sd cI cY cJ cQ (upd nx 2 lf_4) fx rs_5 lo) := wMX_D hD
  exact kk (upd nx 2 lf_4) fx rs_5 lo (upd (upd ny 0 0) 1 mst_9) (upR fy 2 mi_10) fl H locs ls ⟨Xhna, Xhnb, XH, XD, XV, XN, Xcna, Xcnb, XF, Xpna, Xpnb, XG, XO, XW, Xgna, Xgnb, XJ, Xlna, Xlnb, Xdla, Xdlb, Xana, Xanb, Xuna, Xunb, XU, Xlca, Xlcb, Xtna, Xtnb, XS, Mhna, Mhnb, MH, MS, Mmlna, Mmlnb, Mmtna, Mmtnb, Chn, Cho, Chc, Chp, Chs, Ccn, Cfo, Cwo, Cpn, Cpk, Cpf, Cpo, Cpd, Cpe, Cgn, Cgk, Cgs, Cgd, Cge, Can, Cak, Cah, Cay, Caz, Cun, Cuk, Cuy, Cuw, Cum, Clc, Clp, Cla, Clb, Caw, Ciw, Cln, Ctd, Cro, Cmtn, Cmtr, (show (mst_9) = (lf_4) from e9st Cmst), (show shR (fy 0) (fy 1) (mi_10) (fx 1) (fx 2) rs_5 from e9sh)⟩ hPm.comm hDm.comm hS hl

set_option maxHeartbeats 4000000 in
set_option maxRecDepth 100000 in
theorem law_case_2 {p : Program} {l : Launch} {e : Env} {s : State} {m : MethodId} {below : List Frame} {meth : Method} {c : Code} {D : va_G} {cI cY cJ cQ : ClassId} {b L aK aV : Nat} {xs : Nat → Int32} {ad rw md : Nat → Nat} {sd i : Int32} {nx : Nat → Int32} {fx rs : Nat → Nat → Int32} {lo : Nat → Int64} {ny : Nat → Int32} {fy : Nat → Nat → Int32} {fl : Nat → Int64} {H : Heap} {locs : List Loc} {ls : Array Slot} (C0 : lawC p s m meth c b L xs D cI cY cJ cQ aK aV) (I : inv nx fx rs ny fy) (hP : va_P D vwCl (wX ad rw sd cI cY cJ cQ nx fx rs lo ++ wM md sd cI cY cJ cQ ny fy fl) H) (hD : va_D (fun q : Nat => s.heap.size ≤ q) (wX ad rw sd cI cY cJ cQ nx fx rs lo ++ wM md sd cI cY cJ cQ ny fy fl)) (hS : va_S (fun q : Nat => s.heap.size ≤ q) s.heap H locs) (hl : lv_has ls 4 [(0, .ref b), (1, .ref (ad 0)), (2, .ref (md 64)), (3, .int i)]) (hi1 : 1 ≤ i.toInt) (hi2 : i.toInt + 5 < L) (kk : ∀ (nx : Nat → Int32) (fx rs : Nat → Nat → Int32) (lo : Nat → Int64) (ny : Nat → Int32) (fy : Nat → Nat → Int32) (fl : Nat → Int64) (H : Heap) (locs : List Loc) (ls : Array Slot), inv nx fx rs ny fy → va_P D vwCl (wX ad rw sd cI cY cJ cQ nx fx rs lo ++ wM md sd cI cY cJ cQ ny fy fl) H → va_D (fun q : Nat => s.heap.size ≤ q) (wX ad rw sd cI cY cJ cQ nx fx rs lo ++ wM md sd cI cY cJ cQ ny fy fl) → va_S (fun q : Nat => s.heap.size ≤ q) s.heap H locs → lv_has ls 4 [(0, .ref b), (1, .ref (ad 0)), (2, .ref (md 64)), (3, .int i)] → W p l e room_1 s m #[Value.ref b] below meth c H locs 107 4890 (lw_Z below #[Value.ref b] s) (F0 m 1652 ls [])) : W p l e room_1 s m #[Value.ref b] below meth c H locs 107 4890 (lw_Z below #[Value.ref b] s) (F0 m 294 ls []) := by
  obtain ⟨C1, hK, hN, hT, hL⟩ := C0
  obtain ⟨hx, hb, hr, hml, hown, hts0, hX, hbl, hlocks, hgv⟩ := C1
  have hA : ∀ q : Nat, s.heap.size ≤ q → (fun q : Nat => s.heap.size ≤ q) q := fun _ h => h
  have hbA : ¬ (fun q : Nat => s.heap.size ≤ q) b := Nat.not_le.mpr hbl
  have hts : ∀ w ∈ wsL_law, w.before #[Value.ref b] s = true := fun w h => hts0 w (wsL_law_in w h)
  replace hown : s.vm.findClass RL = some m.cls := hown
  replace hb : c.code = cL_law := hb
  have hak1 : vp_in (i + 1) L := law_in hi1 hi2 hL (by decide)
  obtain ⟨xk1, exk1⟩ : ∃ y : Int32, y = xs (i + 1).toNatClampNeg := ⟨_, rfl⟩
  have hak2 : vp_in (i + 2) L := law_in hi1 hi2 hL (by decide)
  obtain ⟨xk2, exk2⟩ : ∃ y : Int32, y = xs (i + 2).toNatClampNeg := ⟨_, rfl⟩
  have hak3 : vp_in (i + 3) L := law_in hi1 hi2 hL (by decide)
  obtain ⟨xk3, exk3⟩ : ∃ y : Int32, y = xs (i + 3).toNatClampNeg := ⟨_, rfl⟩
  have hak4 : vp_in (i + 4) L := law_in hi1 hi2 hL (by decide)
  obtain ⟨xk4, exk4⟩ : ∃ y : Int32, y = xs (i + 4).toNatClampNeg := ⟨_, rfl⟩
  have hak5 : vp_in (i + 5) L := law_in hi1 hi2 hL (by decide)
  obtain ⟨xk5, exk5⟩ : ∃ y : Int32, y = xs (i + 5).toNatClampNeg := ⟨_, rfl⟩
  refine inv_el I ?_
  intro Xhna Xhnb XH XD XV XN Xcna Xcnb XF Xpna Xpnb XG XO XW Xgna Xgnb XJ Xlna Xlnb Xdla Xdlb Xana Xanb Xuna Xunb XU Xlca Xlcb Xtna Xtnb XS Mhna Mhnb MH MS Mmlna Mmlnb Mmtna Mmtnb Chn Cho Chc Chp Chs Ccn Cfo Cwo Cpn Cpk Cpf Cpo Cpd Cpe Cgn Cgk Cgs Cgd Cge Can Cak Cah Cay Caz Cun Cuk Cuy Cuw Cum Clc Clp Cla Clb Caw Ciw Cln Ctd Cro Cmtn Cmtr Cmst Csh
  have Tcn := i_eq Ccn
  have Tpn := i_eq Cpn
  have Tgn := i_eq Cgn
  have Tan := i_eq Can
  have Tun := i_eq Cun
  have Tlc := i_eq Clc
  have Tln := i_eq Cln
  refine lv_aload_n hx hb dL_law_294 rfl (lv_at hl 1 rfl) ?_
  refine law_arg (v := 1) hx hb hX hbl hbA hS (lv_at hl 0 rfl) (lv_at hl 3 rfl) (by decide) hak1 exk1 dL_law_295 dL_law_296 dL_law_297 dL_law_298 dL_law_299 ?_
  refine law_arg (v := 2) hx hb hX hbl hbA hS (lv_at hl 0 rfl) (lv_at hl 3 rfl) (by decide) hak2 exk2 dL_law_300 dL_law_301 dL_law_302 dL_law_303 dL_law_304 ?_
  refine law_arg (v := 3) hx hb hX hbl hbA hS (lv_at hl 0 rfl) (lv_at hl 3 rfl) (by decide) hak3 exk3 dL_law_305 dL_law_306 dL_law_307 dL_law_308 dL_law_309 ?_
  refine law_arg (v := 4) hx hb hX hbl hbA hS (lv_at hl 0 rfl) (lv_at hl 3 rfl) (by decide) hak4 exk4 dL_law_310 dL_law_311 dL_law_312 dL_law_313 dL_law_314 ?_
  refine law_arg (v := 5) hx hb hX hbl hbA hS (lv_at hl 0 rfl) (lv_at hl 3 rfl) (by decide) hak5 exk5 dL_law_315 dL_law_316 dL_law_317 dL_law_318 dL_law_319 ?_
  refine st_iU (va_runV (C := RX10) (As := [.int xk1, .int xk2, .int xk3, .int xk4, .int xk5]) (rest := []) ⟨hx, hb, hml, hown, hts⟩ (ct_X10_copy l D cI cY cJ cQ _ ad rw rs (nx 0) (nx 1) (nx 2) (fx 1) (fx 2) xk1 xk2 xk3 xk4 xk5 XS) (cwV 5 hts gL_law_X10_copy rfl rfl rfl ⟨rfl, cdX10_copy⟩ ⟨Nat.le_of_ble_eq_true rfl, Nat.le_of_ble_eq_true rfl⟩) (cPreV (hP.sub [2, 3, 4, 5, 6, 7, 8, 9, 0, 10, 11, 12, 13] rfl) hK (hD.sub [2, 3, 4, 5, 6, 7, 8, 9, 0, 10, 11, 12, 13] (by decide +kernel) rfl) hN (ci := 10) (q0 := 8) rfl rfl) rfl rfl hl.1 rfl (lv_room (Nat.le_of_ble_eq_true rfl)) dL_law_320 ⟨Nat.le_of_ble_eq_true rfl, Nat.le_of_ble_eq_true rfl⟩) hP hD hS hA [2, 3, 4, 5, 6, 7, 8, 9, 0, 10, 11, 12, 13] rfl (fun _ => rfl) (fun r3 u1 H locs hw2 => ?_)
  clear hP hS
  intro hP hS
  obtain ⟨lf_4, rs_5⟩ := u1
  replace hw2 : (r3, (lf_4, rs_5)) = sp_copy (nx 2) rs (fx 1) (fx 2) xk1 xk2 xk3 xk4 xk5 := hw2
  have hPx : va_P D vwCl (wX ad rw sd cI cY cJ cQ (upd nx 2 lf_4) fx rs_5 lo ++ wM md sd cI cY cJ cQ ny fy fl) H := hP
  have hDx : va_D (fun q : Nat => s.heap.size ≤ q) (wX ad rw sd cI cY cJ cQ (upd nx 2 lf_4) fx rs_5 lo ++ wM md sd cI cY cJ cQ ny fy fl) := wXM_D hD
  have hP := hPx.comm
  have hD := hDx.comm
  refine lv_aload_n hx hb dL_law_323 rfl (lv_at hl 2 rfl) ?_
  refine law_arg (v := 1) hx hb hX hbl hbA hS (lv_at hl 0 rfl) (lv_at hl 3 rfl) (by decide) hak1 exk1 dL_law_324 dL_law_325 dL_law_326 dL_law_327 dL_law_328 ?_
  refine law_arg (v := 2) hx hb hX hbl hbA hS (lv_at hl 0 rfl) (lv_at hl 3 rfl) (by decide) hak2 exk2 dL_law_329 dL_law_330 dL_law_331 dL_law_332 dL_law_333 ?_
  refine law_arg (v := 3) hx hb hX hbl hbA hS (lv_at hl 0 rfl) (lv_at hl 3 rfl) (by decide) hak3 exk3 dL_law_334 dL_law_335 dL_law_336 dL_law_337 dL_law_338 ?_
  refine law_arg (v := 4) hx hb hX hbl hbA hS (lv_at hl 0 rfl) (lv_at hl 3 rfl) (by decide) hak4 exk4 dL_law_339 dL_law_340 dL_law_341 dL_law_342 dL_law_343 ?_
  refine law_arg (v := 5) hx hb hX hbl hbA hS (lv_at hl 0 rfl) (lv_at hl 3 rfl) (by decide) hak5 exk5 dL_law_344 dL_law_345 dL_law_346 dL_law_347 dL_law_348 ?_
  refine st_iU (va_runV (C := RX11) (As := [.int xk1, .int xk2, .int xk3, .int xk4, .int xk5]) (rest := [.int r3]) ⟨hx, hb, hml, hown, hts⟩ (ct_X11_copy l D cI cY cJ cQ _ md sd (ny 0) (ny 1) (ny 2) (ny 3) (ny 4) (ny 5) (ny 6) (ny 7) (ny 8) (ny 9) (ny 10) (ny 11) (ny 12) (ny 13) (ny 14) (ny 15) (ny 16) (ny 17) (ny 18) (ny 19) (ny 20) (ny 21) (ny 22) (fy 0) (fy 1) (fy 2) xk1 xk2 xk3 xk4 xk5 MS) (cwV 5 hts gL_law_X11_copy rfl rfl rfl ⟨rfl, cdX11_copy⟩ ⟨Nat.le_of_ble_eq_true rfl, Nat.le_of_ble_eq_true rfl⟩) (cPreV (hP.sub [0, 1, 2, 3] rfl) hK (hD.sub [0, 1, 2, 3] (by decide +kernel) rfl) hN (ci := 11) (q0 := 0) rfl rfl) rfl rfl hl.1 rfl (lv_room (Nat.le_of_ble_eq_true rfl)) dL_law_349 ⟨Nat.le_of_ble_eq_true rfl, Nat.le_of_ble_eq_true rfl⟩) hP hD hS hA [0, 1, 2, 3] rfl (fun _ => rfl) (fun r8 u6 H locs hw7 => ?_)
  clear hP hS
  intro hP hS
  obtain ⟨mst_9, mi_10⟩ := u6
  replace hw7 : ps_copy (ny 1) (fy 0) (fy 1) (fy 2) xk1 xk2 xk3 xk4 xk5 r8 mst_9 mi_10 := hw7
  obtain ⟨e90, e9sh, e9st⟩ := shR_copy Csh MS hw2 hw7
  refine lv_icmp_eq (tgt := 1652) hx hb dL_law_352 (by decide) (fun _ => ?_) (fun c11 => by exfalso; exact c11 e90)
  have hPm : va_P D vwCl (wM md sd cI cY cJ cQ (upd (upd ny 0 0) 1 mst_9) (upR fy 2 mi_10) fl ++ wX ad rw sd cI cY cJ cQ (upd nx 2 lf_4) fx rs_5 lo) H := hP
  have hDm : va_D (fun q : Nat => s.heap.size ≤ q) (wM md sd cI cY cJ cQ (upd (upd ny 0 0) 1 mst_9) (upR fy 2 mi_10) fl ++ wX ad rw sd cI cY cJ cQ (upd nx 2 lf_4) fx rs_5 lo) := wMX_D hD
  exact kk (upd nx 2 lf_4) fx rs_5 lo (upd (upd ny 0 0) 1 mst_9) (upR fy 2 mi_10) fl H locs ls ⟨Xhna, Xhnb, XH, XD, XV, XN, Xcna, Xcnb, XF, Xpna, Xpnb, XG, XO, XW, Xgna, Xgnb, XJ, Xlna, Xlnb, Xdla, Xdlb, Xana, Xanb, Xuna, Xunb, XU, Xlca, Xlcb, Xtna, Xtnb, XS, Mhna, Mhnb, MH, MS, Mmlna, Mmlnb, Mmtna, Mmtnb, Chn, Cho, Chc, Chp, Chs, Ccn, Cfo, Cwo, Cpn, Cpk, Cpf, Cpo, Cpd, Cpe, Cgn, Cgk, Cgs, Cgd, Cge, Can, Cak, Cah, Cay, Caz, Cun, Cuk, Cuy, Cuw, Cum, Clc, Clp, Cla, Clb, Caw, Ciw, Cln, Ctd, Cro, Cmtn, Cmtr, (show (mst_9) = (lf_4) from e9st Cmst), (show shR (fy 0) (fy 1) (mi_10) (fx 1) (fx 2) rs_5 from e9sh)⟩ hPm.comm hDm.comm hS hl

set_option maxHeartbeats 4000000 in
set_option maxRecDepth 100000 in
theorem law_case_3 {p : Program} {l : Launch} {e : Env} {s : State} {m : MethodId} {below : List Frame} {meth : Method} {c : Code} {D : va_G} {cI cY cJ cQ : ClassId} {b L aK aV : Nat} {xs : Nat → Int32} {ad rw md : Nat → Nat} {sd i : Int32} {nx : Nat → Int32} {fx rs : Nat → Nat → Int32} {lo : Nat → Int64} {ny : Nat → Int32} {fy : Nat → Nat → Int32} {fl : Nat → Int64} {H : Heap} {locs : List Loc} {ls : Array Slot} (C0 : lawC p s m meth c b L xs D cI cY cJ cQ aK aV) (I : inv nx fx rs ny fy) (hP : va_P D vwCl (wX ad rw sd cI cY cJ cQ nx fx rs lo ++ wM md sd cI cY cJ cQ ny fy fl) H) (hD : va_D (fun q : Nat => s.heap.size ≤ q) (wX ad rw sd cI cY cJ cQ nx fx rs lo ++ wM md sd cI cY cJ cQ ny fy fl)) (hS : va_S (fun q : Nat => s.heap.size ≤ q) s.heap H locs) (hl : lv_has ls 4 [(0, .ref b), (1, .ref (ad 0)), (2, .ref (md 64)), (3, .int i)]) (hi1 : 1 ≤ i.toInt) (hi2 : i.toInt + 5 < L) (kk : ∀ (nx : Nat → Int32) (fx rs : Nat → Nat → Int32) (lo : Nat → Int64) (ny : Nat → Int32) (fy : Nat → Nat → Int32) (fl : Nat → Int64) (H : Heap) (locs : List Loc) (ls : Array Slot), inv nx fx rs ny fy → va_P D vwCl (wX ad rw sd cI cY cJ cQ nx fx rs lo ++ wM md sd cI cY cJ cQ ny fy fl) H → va_D (fun q : Nat => s.heap.size ≤ q) (wX ad rw sd cI cY cJ cQ nx fx rs lo ++ wM md sd cI cY cJ cQ ny fy fl) → va_S (fun q : Nat => s.heap.size ≤ q) s.heap H locs → lv_has ls 4 [(0, .ref b), (1, .ref (ad 0)), (2, .ref (md 64)), (3, .int i)] → W p l e room_1 s m #[Value.ref b] below meth c H locs 107 4890 (lw_Z below #[Value.ref b] s) (F0 m 1652 ls [])) : W p l e room_1 s m #[Value.ref b] below meth c H locs 107 4890 (lw_Z below #[Value.ref b] s) (F0 m 357 ls []) := by
  obtain ⟨C1, hK, hN, hT, hL⟩ := C0
  obtain ⟨hx, hb, hr, hml, hown, hts0, hX, hbl, hlocks, hgv⟩ := C1
  have hA : ∀ q : Nat, s.heap.size ≤ q → (fun q : Nat => s.heap.size ≤ q) q := fun _ h => h
  have hbA : ¬ (fun q : Nat => s.heap.size ≤ q) b := Nat.not_le.mpr hbl
  have hts : ∀ w ∈ wsL_law, w.before #[Value.ref b] s = true := fun w h => hts0 w (wsL_law_in w h)
  replace hown : s.vm.findClass RL = some m.cls := hown
  replace hb : c.code = cL_law := hb
  have hak1 : vp_in (i + 1) L := law_in hi1 hi2 hL (by decide)
  obtain ⟨xk1, exk1⟩ : ∃ y : Int32, y = xs (i + 1).toNatClampNeg := ⟨_, rfl⟩
  refine inv_el I ?_
  intro Xhna Xhnb XH XD XV XN Xcna Xcnb XF Xpna Xpnb XG XO XW Xgna Xgnb XJ Xlna Xlnb Xdla Xdlb Xana Xanb Xuna Xunb XU Xlca Xlcb Xtna Xtnb XS Mhna Mhnb MH MS Mmlna Mmlnb Mmtna Mmtnb Chn Cho Chc Chp Chs Ccn Cfo Cwo Cpn Cpk Cpf Cpo Cpd Cpe Cgn Cgk Cgs Cgd Cge Can Cak Cah Cay Caz Cun Cuk Cuy Cuw Cum Clc Clp Cla Clb Caw Ciw Cln Ctd Cro Cmtn Cmtr Cmst Csh
  have Tcn := i_eq Ccn
  have Tpn := i_eq Cpn
  have Tgn := i_eq Cgn
  have Tan := i_eq Can
  have Tun := i_eq Cun
  have Tlc := i_eq Clc
  have Tln := i_eq Cln
  refine lv_aload_n hx hb dL_law_357 rfl (lv_at hl 1 rfl) ?_
  refine law_arg (v := 1) hx hb hX hbl hbA hS (lv_at hl 0 rfl) (lv_at hl 3 rfl) (by decide) hak1 exk1 dL_law_358 dL_law_359 dL_law_360 dL_law_361 dL_law_362 ?_
  refine st_iU (va_runV (C := RX10) (As := [.int xk1]) (rest := []) ⟨hx, hb, hml, hown, hts⟩ (ct_X10_drop l D cI cY cJ cQ _ ad (nx 0) (nx 1) (nx 2) (fx 2) xk1) (cwV 1 hts gL_law_X10_drop rfl rfl rfl ⟨rfl, cdX10_drop⟩ ⟨Nat.le_of_ble_eq_true rfl, Nat.le_of_ble_eq_true rfl⟩) (cPreV (hP.sub [0, 10, 13] rfl) hK (hD.sub [0, 10, 13] (by decide +kernel) rfl) hN (ci := 10) (q0 := 0) rfl rfl) rfl rfl hl.1 rfl (lv_room (Nat.le_of_ble_eq_true rfl)) dL_law_363 ⟨Nat.le_of_ble_eq_true rfl, Nat.le_of_ble_eq_true rfl⟩) hP hD hS hA [0, 10, 13] rfl (fun _ => rfl) (fun r3 u1 H locs hw2 => ?_)
  clear hP hS
  intro hP hS
  obtain ⟨lf_4, ss_5⟩ := u1
  replace hw2 : (r3, (lf_4, ss_5)) = sp_drop (nx 2) (fx 2) xk1 := hw2
  have hw2s := sp_drop_ok hw2 XS
  refine lv_pop hx hb dL_law_366 rfl ?_
  have hPx : va_P D vwCl (wX ad rw sd cI cY cJ cQ (upd nx 2 lf_4) (upR fx 2 ss_5) rs lo ++ wM md sd cI cY cJ cQ ny fy fl) H := hP
  have hDx : va_D (fun q : Nat => s.heap.size ≤ q) (wX ad rw sd cI cY cJ cQ (upd nx 2 lf_4) (upR fx 2 ss_5) rs lo ++ wM md sd cI cY cJ cQ ny fy fl) := wXM_D hD
  have hP := hPx.comm
  have hD := hDx.comm
  refine lv_aload_n hx hb dL_law_367 rfl (lv_at hl 2 rfl) ?_
  refine law_arg (v := 1) hx hb hX hbl hbA hS (lv_at hl 0 rfl) (lv_at hl 3 rfl) (by decide) hak1 exk1 dL_law_368 dL_law_369 dL_law_370 dL_law_371 dL_law_372 ?_
  refine st_iU (va_runV (C := RX11) (As := [.int xk1]) (rest := []) ⟨hx, hb, hml, hown, hts⟩ (ct_X11_drop l D cI cY cJ cQ _ md sd (ny 0) (ny 1) (ny 2) (ny 3) (ny 4) (ny 5) (ny 6) (ny 7) (ny 8) (ny 9) (ny 10) (ny 11) (ny 12) (ny 13) (ny 14) (ny 15) (ny 16) (ny 17) (ny 18) (ny 19) (ny 20) (ny 21) (ny 22) (fy 0) (fy 1) xk1) (cwV 1 hts gL_law_X11_drop rfl rfl rfl ⟨rfl, cdX11_drop⟩ ⟨Nat.le_of_ble_eq_true rfl, Nat.le_of_ble_eq_true rfl⟩) (cPreV (hP.sub [0, 1, 2] rfl) hK (hD.sub [0, 1, 2] (by decide +kernel) rfl) hN (ci := 11) (q0 := 0) rfl rfl) rfl rfl hl.1 rfl (lv_room (Nat.le_of_ble_eq_true rfl)) dL_law_373 ⟨Nat.le_of_ble_eq_true rfl, Nat.le_of_ble_eq_true rfl⟩) hP hD hS hA [0, 1, 2] rfl (fun _ => rfl) (fun r8 u6 H locs hw7 => ?_)
  clear hP hS
  intro hP hS
  obtain ⟨mst_9, ml_10⟩ := u6
  replace hw7 : ps_drop (ny 1) (fy 0) (fy 1) xk1 r8 mst_9 ml_10 := hw7
  obtain ⟨e90, e9sh, e9st⟩ := shR_drop Csh MS hw2 hw7
  refine lv_pop hx hb dL_law_376 rfl ?_
  refine lv_goto (tgt := 1652) hx hb dL_law_377 (by decide) ?_
  have hPm : va_P D vwCl (wM md sd cI cY cJ cQ (upd (upd ny 0 0) 1 mst_9) (upR fy 0 ml_10) fl ++ wX ad rw sd cI cY cJ cQ (upd nx 2 lf_4) (upR fx 2 ss_5) rs lo) H := hP
  have hDm : va_D (fun q : Nat => s.heap.size ≤ q) (wM md sd cI cY cJ cQ (upd (upd ny 0 0) 1 mst_9) (upR fy 0 ml_10) fl ++ wX ad rw sd cI cY cJ cQ (upd nx 2 lf_4) (upR fx 2 ss_5) rs lo) := wMX_D hD
  exact kk (upd nx 2 lf_4) (upR fx 2 ss_5) rs lo (upd (upd ny 0 0) 1 mst_9) (upR fy 0 ml_10) fl H locs ls ⟨Xhna, Xhnb, XH, XD, XV, XN, Xcna, Xcnb, XF, Xpna, Xpnb, XG, XO, XW, Xgna, Xgnb, XJ, Xlna, Xlnb, Xdla, Xdlb, Xana, Xanb, Xuna, Xunb, XU, Xlca, Xlcb, Xtna, Xtnb, (show okS (ss_5) by assumption), Mhna, Mhnb, MH, MS, Mmlna, Mmlnb, Mmtna, Mmtnb, Chn, Cho, Chc, Chp, Chs, Ccn, Cfo, Cwo, Cpn, Cpk, Cpf, Cpo, Cpd, Cpe, Cgn, Cgk, Cgs, Cgd, Cge, Can, Cak, Cah, Cay, Caz, Cun, Cuk, Cuy, Cuw, Cum, Clc, Clp, Cla, Clb, Caw, Ciw, Cln, Ctd, Cro, Cmtn, Cmtr, (show (mst_9) = (lf_4) from e9st Cmst), (show shR (ml_10) (fy 1) (fy 2) (fx 1) (ss_5) rs from e9sh)⟩ hPm.comm hDm.comm hS hl
