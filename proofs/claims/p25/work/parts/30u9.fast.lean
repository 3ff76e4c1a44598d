noncomputable def zt_fm : List ((Nat × List (Nat × xf_F xd_V)) × xv_N) := [(zt_f0, zt_m0), (zt_f1, zt_m1), (zt_f2, zt_m2), (zt_f3, zt_m3), (zt_f4, zt_m4), (zt_f5, zt_m5), (zt_f6, zt_m6), (zt_f7, zt_m7), (zt_f8, zt_m8), (zt_f9, zt_m9), (zt_f10, zt_m10), (zt_f11, zt_m11), (zt_f12, zt_m12), (zt_f13, zt_m13), (zt_f14, zt_m14), (zt_f15, zt_m15), (zt_f16, zt_m16), (zt_f17, zt_m17), (zt_f18, zt_m18), (zt_f19, zt_m19), (zt_f20, zt_m20), (zt_f21, zt_m21), (zt_f22, zt_m22), (zt_f23, zt_m23), (zt_f24, zt_m24), (zt_f25, zt_m25), (zt_f26, zt_m26), (zt_f27, zt_m27), (zt_f28, zt_m28), (zt_f29, zt_m29), (zt_f30, zt_m30), (zt_f31, zt_m31), (zt_f32, zt_m32), (zt_f33, zt_m33), (zt_f34, zt_m34), (zt_f35, zt_m35), (zt_f36, zt_m36), (zt_f37, zt_m37), (zt_f38, zt_m38), (zt_f39, zt_m39)]
theorem zt_fmok : ∀ q ∈ zt_fm, q.1 = zt_F 100000 q.2 ∧ xf_wf q.2.2.2.2 = true ∧ ∃ (i0 : Instr) (cs : List xv_I), q.2.2.2.2 = (0, i0) :: cs := by
  unfold zt_fm
  refine List.forall_mem_cons.mpr ⟨⟨zt_fk0, zt_wf0, ⟨_, _, rfl⟩⟩, ?_⟩
  refine List.forall_mem_cons.mpr ⟨⟨zt_fk1, zt_wf1, ⟨_, _, rfl⟩⟩, ?_⟩
  refine List.forall_mem_cons.mpr ⟨⟨zt_fk2, zt_wf2, ⟨_, _, rfl⟩⟩, ?_⟩
  refine List.forall_mem_cons.mpr ⟨⟨zt_fk3, zt_wf3, ⟨_, _, rfl⟩⟩, ?_⟩
  refine List.forall_mem_cons.mpr ⟨⟨zt_fk4, zt_wf4, ⟨_, _, rfl⟩⟩, ?_⟩
  refine List.forall_mem_cons.mpr ⟨⟨zt_fk5, zt_wf5, ⟨_, _, rfl⟩⟩, ?_⟩
  refine List.forall_mem_cons.mpr ⟨⟨zt_fk6, zt_wf6, ⟨_, _, rfl⟩⟩, ?_⟩
  refine List.forall_mem_cons.mpr ⟨⟨zt_fk7, zt_wf7, ⟨_, _, rfl⟩⟩, ?_⟩
  refine List.forall_mem_cons.mpr ⟨⟨zt_fk8, zt_wf8, ⟨_, _, rfl⟩⟩, ?_⟩
  refine List.forall_mem_cons.mpr ⟨⟨zt_fk9, zt_wf9, ⟨_, _, rfl⟩⟩, ?_⟩
  refine List.forall_mem_cons.mpr ⟨⟨zt_fk10, zt_wf10, ⟨_, _, rfl⟩⟩, ?_⟩
  refine List.forall_mem_cons.mpr ⟨⟨zt_fk11, zt_wf11, ⟨_, _, rfl⟩⟩, ?_⟩
  refine List.forall_mem_cons.mpr ⟨⟨zt_fk12, zt_wf12, ⟨_, _, rfl⟩⟩, ?_⟩
  refine List.forall_mem_cons.mpr ⟨⟨zt_fk13, zt_wf13, ⟨_, _, rfl⟩⟩, ?_⟩
  refine List.forall_mem_cons.mpr ⟨⟨zt_fk14, zt_wf14, ⟨_, _, rfl⟩⟩, ?_⟩
  refine List.forall_mem_cons.mpr ⟨⟨zt_fk15, zt_wf15, ⟨_, _, rfl⟩⟩, ?_⟩
  refine List.forall_mem_cons.mpr ⟨⟨zt_fk16, zt_wf16, ⟨_, _, rfl⟩⟩, ?_⟩
  refine List.forall_mem_cons.mpr ⟨⟨zt_fk17, zt_wf17, ⟨_, _, rfl⟩⟩, ?_⟩
  refine List.forall_mem_cons.mpr ⟨⟨zt_fk18, zt_wf18, ⟨_, _, rfl⟩⟩, ?_⟩
  refine List.forall_mem_cons.mpr ⟨⟨zt_fk19, zt_wf19, ⟨_, _, rfl⟩⟩, ?_⟩
  refine List.forall_mem_cons.mpr ⟨⟨zt_fk20, zt_wf20, ⟨_, _, rfl⟩⟩, ?_⟩
  refine List.forall_mem_cons.mpr ⟨⟨zt_fk21, zt_wf21, ⟨_, _, rfl⟩⟩, ?_⟩
  refine List.forall_mem_cons.mpr ⟨⟨zt_fk22, zt_wf22, ⟨_, _, rfl⟩⟩, ?_⟩
  refine List.forall_mem_cons.mpr ⟨⟨zt_fk23, zt_wf23, ⟨_, _, rfl⟩⟩, ?_⟩
  refine List.forall_mem_cons.mpr ⟨⟨zt_fk24, zt_wf24, ⟨_, _, rfl⟩⟩, ?_⟩
  refine List.forall_mem_cons.mpr ⟨⟨zt_fk25, zt_wf25, ⟨_, _, rfl⟩⟩, ?_⟩
  refine List.forall_mem_cons.mpr ⟨⟨zt_fk26, zt_wf26, ⟨_, _, rfl⟩⟩, ?_⟩
  refine List.forall_mem_cons.mpr ⟨⟨zt_fk27, zt_wf27, ⟨_, _, rfl⟩⟩, ?_⟩
  refine List.forall_mem_cons.mpr ⟨⟨zt_fk28, zt_wf28, ⟨_, _, rfl⟩⟩, ?_⟩
  refine List.forall_mem_cons.mpr ⟨⟨zt_fk29, zt_wf29, ⟨_, _, rfl⟩⟩, ?_⟩
  refine List.forall_mem_cons.mpr ⟨⟨zt_fk30, zt_wf30, ⟨_, _, rfl⟩⟩, ?_⟩
  refine List.forall_mem_cons.mpr ⟨⟨zt_fk31, zt_wf31, ⟨_, _, rfl⟩⟩, ?_⟩
  refine List.forall_mem_cons.mpr ⟨⟨zt_fk32, zt_wf32, ⟨_, _, rfl⟩⟩, ?_⟩
  refine List.forall_mem_cons.mpr ⟨⟨zt_fk33, zt_wf33, ⟨_, _, rfl⟩⟩, ?_⟩
  refine List.forall_mem_cons.mpr ⟨⟨zt_fk34, zt_wf34, ⟨_, _, rfl⟩⟩, ?_⟩
  refine List.forall_mem_cons.mpr ⟨⟨zt_fk35, zt_wf35, ⟨_, _, rfl⟩⟩, ?_⟩
  refine List.forall_mem_cons.mpr ⟨⟨zt_fk36, zt_wf36, ⟨_, _, rfl⟩⟩, ?_⟩
  refine List.forall_mem_cons.mpr ⟨⟨zt_fk37, zt_wf37, ⟨_, _, rfl⟩⟩, ?_⟩
  refine List.forall_mem_cons.mpr ⟨⟨zt_fk38, zt_wf38, ⟨_, _, rfl⟩⟩, ?_⟩
  refine List.forall_mem_cons.mpr ⟨⟨zt_fk39, zt_wf39, ⟨_, _, rfl⟩⟩, ?_⟩
  exact fun _ h => absurd h List.not_mem_nil
theorem zt_hfs : ∀ (j : Nat) (q : Nat × List (Nat × xf_F xd_V)), zt_fs[j]? = some q → ∃ (y : xv_N) (i0 : Instr) (cs : List xv_I), zt_ms[j]? = some y ∧ q = (y.2.1.2.1, y.2.2.2.map (xf_mk xd_D xd_fv zt_ct zt_at zt_sct zt_ms y 100000)) ∧ xf_wf y.2.2.2 = true ∧ y.2.2.2 = (0, i0) :: cs := by
  intro j q h
  rw [show zt_fs = zt_fm.map Prod.fst from rfl, List.getElem?_map] at h
  cases hq : zt_fm[j]? with
  | none => rw [hq] at h; cases h
  | some r =>
    rw [hq] at h
    cases Option.some.inj h
    obtain ⟨h1, h2, i0, cs, h3⟩ := zt_fmok r (List.mem_of_getElem? hq)
    refine ⟨r.2, i0, cs, ?_, h1, h2, h3⟩
    rw [show zt_ms = zt_fm.map Prod.snd ++ zt_ms.drop 40 from rfl, List.getElem?_append_left (by rw [List.length_map]; exact (List.getElem?_eq_some_iff.mp hq).1), List.getElem?_map, hq]
    rfl
