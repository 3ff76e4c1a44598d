theorem xw_chunks {α : Type} {l : List α} {f : α → Bool} (C N : Nat) (hC : 0 < C) (hl : l.length ≤ C * N) (h : ∀ k, k < N → ((l.drop (C * k)).take C).all f = true) : l.all f = true := by
  refine List.all_eq_true.mpr (fun q hq => ?_)
  obtain ⟨i, hi⟩ := List.getElem?_of_mem hq
  have hlt : i < l.length := (List.getElem?_eq_some_iff.mp hi).1
  have hk : i / C < N := Nat.div_lt_of_lt_mul (Nat.lt_of_lt_of_le hlt hl)
  refine List.all_eq_true.mp (h _ hk) q (List.mem_of_getElem? (i := i % C) ?_)
  rw [List.getElem?_take, if_pos (Nat.mod_lt _ hC), List.getElem?_drop, Nat.div_add_mod]
  exact hi
set_option maxRecDepth 100000 in
theorem zt_d26_ok : zt_m26.2.2.2.all (xw_dOk zt_z26.2.1) = true := xw_chunks 40 5 (by decide) (by decide +kernel) (fun k hk => match k, hk with
  | 0, _ => zt_d26_0
  | 1, _ => zt_d26_1
  | 2, _ => zt_d26_2
  | 3, _ => zt_d26_3
  | 4, _ => zt_d26_4
  | n + 5, h => absurd h (by omega))
set_option maxRecDepth 100000 in
theorem zt_d29_ok : zt_m29.2.2.2.all (xw_dOk zt_z29.2.1) = true := xw_chunks 40 21 (by decide) (by decide +kernel) (fun k hk => match k, hk with
  | 0, _ => zt_d29_0
  | 1, _ => zt_d29_1
  | 2, _ => zt_d29_2
  | 3, _ => zt_d29_3
  | 4, _ => zt_d29_4
  | 5, _ => zt_d29_5
  | 6, _ => zt_d29_6
  | 7, _ => zt_d29_7
  | 8, _ => zt_d29_8
  | 9, _ => zt_d29_9
  | 10, _ => zt_d29_10
  | 11, _ => zt_d29_11
  | 12, _ => zt_d29_12
  | 13, _ => zt_d29_13
  | 14, _ => zt_d29_14
  | 15, _ => zt_d29_15
  | 16, _ => zt_d29_16
  | 17, _ => zt_d29_17
  | 18, _ => zt_d29_18
  | 19, _ => zt_d29_19
  | 20, _ => zt_d29_20
  | n + 21, h => absurd h (by omega))
set_option maxRecDepth 100000 in
theorem zt_d140_ok : zt_m140.2.2.2.all (xw_dOk zt_z140.2.1) = true := xw_chunks 40 5 (by decide) (by decide +kernel) (fun k hk => match k, hk with
  | 0, _ => zt_d140_0
  | 1, _ => zt_d140_1
  | 2, _ => zt_d140_2
  | 3, _ => zt_d140_3
  | 4, _ => zt_d140_4
  | n + 5, h => absurd h (by omega))
set_option maxRecDepth 100000 in
theorem zt_dlaw_ok : zt_law.2.2.2.all (xw_dOk zt_zlaw.2.1) = true := xw_chunks 40 23 (by decide) (by decide +kernel) (fun k hk => match k, hk with
  | 0, _ => zt_dlaw_0
  | 1, _ => zt_dlaw_1
  | 2, _ => zt_dlaw_2
  | 3, _ => zt_dlaw_3
  | 4, _ => zt_dlaw_4
  | 5, _ => zt_dlaw_5
  | 6, _ => zt_dlaw_6
  | 7, _ => zt_dlaw_7
  | 8, _ => zt_dlaw_8
  | 9, _ => zt_dlaw_9
  | 10, _ => zt_dlaw_10
  | 11, _ => zt_dlaw_11
  | 12, _ => zt_dlaw_12
  | 13, _ => zt_dlaw_13
  | 14, _ => zt_dlaw_14
  | 15, _ => zt_dlaw_15
  | 16, _ => zt_dlaw_16
  | 17, _ => zt_dlaw_17
  | 18, _ => zt_dlaw_18
  | 19, _ => zt_dlaw_19
  | 20, _ => zt_dlaw_20
  | 21, _ => zt_dlaw_21
  | 22, _ => zt_dlaw_22
  | n + 23, h => absurd h (by omega))
