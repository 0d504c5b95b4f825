/-! What holds at the law's entry: the words of the tables, and what is known of the old heap. -/
theorem tb_in {i : Nat} {w : Cond} (h : tables_1[i]? = some w) : w ∈ lw_tbl := List.mem_append_right _ (List.mem_of_getElem? h)
theorem kn_of {args : Array Value} {s : State} (hts : ∀ w ∈ lw_tbl, w.before args s = true) : zKnS s := by
  refine ⟨va_AO.of (hts _ (tb_in (i := 375) (w := .arrayOver (.object "EchoVale$Course")) (by decide +kernel))), va_AO.of (hts _ (tb_in (i := 389) (w := .arrayOver (.object "EchoVale$Image")) (by decide +kernel))), fun r hr => ?_, fun r hr => ?_⟩
  · have h5 := zMap zLSN_at r hr
    simp only [Prod.mk.injEq] at h5
    exact va_Nw.of rfl (hts _ (zT_mem h5.1))
  · have h5 := zMap zLPN_at r hr
    simp only [Prod.mk.injEq] at h5
    exact va_Nw.of rfl (hts _ (zT_mem h5.1))
theorem fl_in {i : Nat} {w : Cond} (h : st_f[i]? = some w) : w ∈ st_f := List.mem_of_getElem? h
theorem str_of {args : Array Value} {s : State} {own tx : String} {k i : Nat} (hf : ∀ w ∈ st_f, w.before args s = true) (h1 : (Cond.stringRef own k tx).before args s = true) (h2 : st_f[i]? = some (.exactly (.string own k) "java/lang/String")) : ∃ a : Nat, vk_R own k tx a s := by
  obtain ⟨a, c, cA, kA, q1, -⟩ := Cond.exactly_spec (args := args) (first := s) (o := none) (s := s) (idx := []) (t := .string own k) (cls := "java/lang/String") (hf _ (fl_in h2))
  exact ⟨a, vk_R.of h1 q1⟩
theorem KK_of {args : Array Value} {s : State} (hts : ∀ w ∈ lw_tbl, w.before args s = true) (hgv : (Jvm.Cond.and given_1 narrow_1).before args s = true) : ∃ (sk sv : Nat → Nat) (ac : Nat × Nat × Nat), KK s.heap.size sk sv ac s s.heap := by
  have hf : ∀ w ∈ st_f, w.before args s = true := flat_of_before _ hgv
  have hA : ∀ a : Nat, a < s.heap.size → ¬ s.heap.size ≤ a := fun a h => Nat.not_le.mpr h
  have i0 : ∀ i : Nat, i < 1 → i = 0 := fun i h => by omega
  obtain ⟨sk, sv, hS, hev⟩ := vk_Sof (args := args) (s := s) (N := 1) (tm := fun _ => st_t) (len := [105]) (byt := [st_b]) (A := fun q => s.heap.size ≤ q)
    (fun i hi => by rw [i0 i hi]; decide)
    (fun i hi => hf _ (fl_in (i := 54) (by decide +kernel)))
    (fun i hi => hf _ (fl_in (i := 55) (by decide +kernel)))
    (fun i hi => hf _ (fl_in (i := 56) (by decide +kernel)))
    (fun i hi => by rw [i0 i hi]; exact hf _ (fl_in (i := 57) (by decide +kernel)))
    (fun i hi j hj => by
      rw [i0 i hi] at hj ⊢
      exact hf _ (st_elm hj))
    (fun i j hi hj hij => absurd ((i0 i hi).trans (i0 j hj).symm) hij) hA
  obtain ⟨a1, r1⟩ := str_of (own := "EchoVale") (k := 145) (tx := "no such cliff") (i := 163) hf (hts _ (tb_in (i := 1196) (by decide +kernel))) (by decide +kernel)
  obtain ⟨a2, r2⟩ := str_of (own := "EchoVale") (k := 175) (tx := "no such person") (i := 181) hf (hts _ (tb_in (i := 1229) (by decide +kernel))) (by decide +kernel)
  obtain ⟨a3, r3⟩ := str_of (own := "EchoVale") (k := 194) (tx := "no such saying") (i := 201) hf (hts _ (tb_in (i := 1245) (by decide +kernel))) (by decide +kernel)
  refine ⟨sk, sv, (a1, a2, a3), ⟨hS, va_Zof (hts _ (tb_in (i := 53) (by decide +kernel))) (hts _ (tb_in (i := 3) (by decide +kernel))) (va_eqt (hf _ (fl_in (i := 4) (by decide +kernel)))) hA, va_Zqof (hts _ (tb_in (i := 69) (by decide +kernel))) (hts _ (tb_in (i := 5) (by decide +kernel))) (hf _ (fl_in (i := 5) (by decide +kernel))) hA⟩, vk_R.of (hts _ (tb_in (i := 43) (by decide +kernel))) (hev 0 (by decide)), r1, r2, r3, vx_Zqof (hts _ (tb_in (i := 1184) (by decide +kernel))) (hts _ (tb_in (i := 20) (by decide +kernel))) (hf _ (fl_in (i := 9) (by decide +kernel))) hA, vx_Zqof (hts _ (tb_in (i := 1186) (by decide +kernel))) (hts _ (tb_in (i := 20) (by decide +kernel))) (hf _ (fl_in (i := 10) (by decide +kernel))) hA, fun w hw => ?_⟩
  simp only [kNG, List.mem_cons, List.not_mem_nil, or_false] at hw
  rcases hw with rfl | rfl | rfl | rfl
  · exact va_Nw.of rfl (hts _ (tb_in (i := 1159) (by decide +kernel)))
  · exact va_Nw.of rfl (hts _ (tb_in (i := 1161) (by decide +kernel)))
  · exact va_Nw.of rfl (hts _ (tb_in (i := 1163) (by decide +kernel)))
  · exact va_Nw.of rfl (hts _ (tb_in (i := 1165) (by decide +kernel)))
