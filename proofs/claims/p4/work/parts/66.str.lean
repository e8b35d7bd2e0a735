
/-- the words' text as the tables have it -/
theorem str_0 {args : Array Value} {s : State} {A : Nat → Prop} (hgv : (Jvm.Cond.and given_1 narrow_1).before args s = true) (hts : ∀ w ∈ lw_tbl, w.before args s = true) (hA : ∀ a : Nat, a < s.heap.size → ¬ A a) : ∃ aK aV : Nat, strW aK aV A s := by
  have hs := flat_of_before _ hgv
  have h1 := vk_Sof (args := args) (s := s) (N := 1) (tm := fun _ => Term.string RX2 95) (len := [30]) (byt := [WORDB]) (A := A) (fun i hi => by obtain rfl : i = 0 := (by omega); decide)
    (fun i hi => hs (Cond.exactly (.string RX2 95) "java/lang/String") (by decide +kernel)) (fun i hi => hs (Cond.eq (.field (.string RX2 95) "java/lang/String" "coder" "B") (.int 0)) (by decide +kernel))
    (fun i hi => hs (Cond.arrayOf (.field (.string RX2 95) "java/lang/String" "value" "[B") .byte) (by decide +kernel))
    (fun i hi => by
      have : i = 0 := by omega
      subst this
      exact hs (Cond.eq (.length (.field (.string RX2 95) "java/lang/String" "value" "[B")) (.int 30)) (by decide +kernel))
    (fun i hi j hj => by
      have : i = 0 := by omega
      subst this
      have hj : j < 30 := hj
      exact hs _ ((by decide +kernel : ∀ j, j < 30 → (Cond.eq (.elem (.field (.string RX2 95) "java/lang/String" "value" "[B") (.int (Int32.ofNat j))) (.int (([WORDB].getD 0 []).getD j 0))) ∈ flatC (Jvm.Cond.and given_1 narrow_1)) j hj))
    (fun i j hi hj hij => by omega) hA
  obtain ⟨adK, adV, h2, h3⟩ := h1
  refine ⟨adK 0, adV 0, vk_R.of (hts (.stringRef RX2 95 WORDT) (by decide +kernel)) (h3 0 (by decide)), ⟨fun i hi => ?_, fun i j hi hj _ => by omega⟩, ?_, ?_⟩
  · have : i = 0 := by omega
    subst this
    exact h2.1 0 (by decide)
  · exact va_Zof (hts (.laysStatic "java/lang/String" "COMPACT_STRINGS" "Z") (by decide +kernel)) (hts (.initialized "java/lang/String") (by decide +kernel)) (va_eqt (hs (Cond.eq (.static "java/lang/String" "COMPACT_STRINGS" "Z") (.int 1)) (by decide +kernel))) hA
  · exact va_Zqof (hts (.laysStatic "jdk/internal/util/Preconditions" "SIOOBE_FORMATTER" "Ljava/util/function/BiFunction;") (by decide +kernel)) (hts (.initialized "jdk/internal/util/Preconditions") (by decide +kernel)) (hs (Cond.isRef (.static "jdk/internal/util/Preconditions" "SIOOBE_FORMATTER" "Ljava/util/function/BiFunction;")) (by decide +kernel)) hA
