section LC
variable {p : Program} {l : Launch} {e : Env} {s : State} {m : MethodId} {below : List Frame} {meth : Method} {c : Code} {Q : State → Prop} {cells slots : Nat} {D : va_G} {H : Heap} {locs : List Loc} {ls : Array Slot}
variable {h a1 a2 a3 a4 o g0 b1 b2 b3 b4 b5 b L i : Nat} {cA cL : ClassId} {xs : Nat → Int32}
variable {n ft : Nat} {nb ed : Nat → Nat} {u : hU} {um : UM}

theorem nz_of {z : Int32} {n : Nat} (h : ¬ ∃ v, v < n ∧ z = nI v) : ∀ k, k < n → z ≠ nI k := fun k hk he => h ⟨k, hk, he⟩
set_option maxHeartbeats 4000000 in
set_option maxRecDepth 100000 in
theorem lw_disp (F : LFix p l s m c b L xs D cA cL h a1 a2 a3 a4 o g0 b1 b2 b3 b4 b5) (T : LSt s D cA cL h a1 a2 a3 a4 o g0 b1 b2 b3 b4 b5 n nb u ft ed um H locs) (hi : i + 2 < L) (hc : cells + 1 ≤ 667068) (hs : slots + 6 ≤ 7094901) (kk : LK p l e room_1 s m below meth c Q D cA cL b h a1 a2 a3 a4 o g0 b1 b2 b3 b4 b5 i (cells + 1) (slots + 6)) (hl : lv_has ls 7 [(0, .ref b), (1, .ref h), (2, .ref g0), (3, .ref o), (4, .int (nI i))]) {j : Nat} (hj : j < 32) : W p l e room_1 s m #[Value.ref b] below meth c H locs cells slots Q (F0 m 39 ls [.int (nI j)]) := by
  have hx := F.hx
  have hb := F.hb
  by_cases h0 : j = 0
  · subst h0
    refine lv_tableIn (off := 81) (tgt := 120) hx hb dL_law_39 (by decide) (by decide) (by decide) (by decide) ?_
    by_cases h8 : n < 8
    · exact lc_grow_y F T hi hc hs kk hl h8
    · exact lc_grow_n F T hi hc hs kk hl (by have := T.R.1; omega)
  by_cases h1 : j = 1
  · subst h1
    refine lv_tableIn (off := 125) (tgt := 164) hx hb dL_law_39 (by decide) (by decide) (by decide) (by decide) ?_
    cases n with
    | zero => exact lc_shrink_n F T hi hc hs kk hl rfl
    | succ n => exact lc_shrink_y F T hi hc hs kk hl
  by_cases h2 : j = 2
  · subst h2
    refine lv_tableIn (off := 149) (tgt := 188) hx hb dL_law_39 (by decide) (by decide) (by decide) (by decide) ?_
    by_cases h1 : ∃ v, v < n ∧ xs (i + 1) = nI v
    · obtain ⟨v1, hu, hz1⟩ := h1
      by_cases h2 : ∃ v, v < n ∧ xs (i + 2) = nI v
      · obtain ⟨v2, hv, hz2⟩ := h2
        by_cases h3 : v1 = v2
        · subst h3
          exact lc_join_n3 F T hi hc hs kk hl hz1 hz2 hu
        · by_cases he : ed (8 * v1 + v2) = 1
          · exact lc_join_c F T hi hc hs kk hl hz1 hz2 hu hv h3 he
          · exact lc_join_d F T hi hc hs kk hl hz1 hz2 hu hv h3 he
      · exact lc_join_n2 F T hi hc hs kk hl hz1 hu (nz_of h2)
    · exact lc_join_n1 F T hi hc hs kk hl (nz_of h1)
  by_cases h3 : j = 3
  · subst h3
    refine lv_tableIn (off := 224) (tgt := 263) hx hb dL_law_39 (by decide) (by decide) (by decide) (by decide) ?_
    by_cases h1 : ∃ v, v < n ∧ xs (i + 1) = nI v
    · obtain ⟨v1, hu, hz1⟩ := h1
      by_cases h2 : ∃ v, v < n ∧ xs (i + 2) = nI v
      · obtain ⟨v2, hv, hz2⟩ := h2
        by_cases h3 : v1 = v2
        · subst h3
          exact lc_part_n3 F T hi hc hs kk hl hz1 hz2 hu
        · by_cases he : ed (8 * v1 + v2) = 0
          · exact lc_part_c F T hi hc hs kk hl hz1 hz2 hu hv h3 he
          · exact lc_part_d F T hi hc hs kk hl hz1 hz2 hu hv h3 he
      · exact lc_part_n2 F T hi hc hs kk hl hz1 hu (nz_of h2)
    · exact lc_part_n1 F T hi hc hs kk hl (nz_of h1)
  by_cases h4 : j = 4
  · subst h4
    refine lv_tableIn (off := 299) (tgt := 338) hx hb dL_law_39 (by decide) (by decide) (by decide) (by decide) ?_
    by_cases h1 : ∃ v, v < n ∧ xs (i + 1) = nI v
    · obtain ⟨v1, hu, hz1⟩ := h1
      by_cases h2 : ∃ v, v < n ∧ xs (i + 2) = nI v
      · obtain ⟨v2, hv, hz2⟩ := h2
        exact lc_adjacent_y F T hi hc hs kk hl hz1 hz2 hu hv
      · exact lc_adjacent_n2 F T hi hc hs kk hl hz1 hu (nz_of h2)
    · exact lc_adjacent_n1 F T hi hc hs kk hl (nz_of h1)
  by_cases h5 : j = 5
  · subst h5
    refine lv_tableIn (off := 374) (tgt := 413) hx hb dL_law_39 (by decide) (by decide) (by decide) (by decide) ?_
    exact lc_vertices F T hi hc hs kk hl
  by_cases h6 : j = 6
  · subst h6
    refine lv_tableIn (off := 387) (tgt := 426) hx hb dL_law_39 (by decide) (by decide) (by decide) (by decide) ?_
    exact lc_edges F T hi hc hs kk hl
  by_cases h7 : j = 7
  · subst h7
    refine lv_tableIn (off := 400) (tgt := 439) hx hb dL_law_39 (by decide) (by decide) (by decide) (by decide) ?_
    by_cases h1 : ∃ v, v < n ∧ xs (i + 1) = nI v
    · obtain ⟨v, hv, hz1⟩ := h1
      exact lc_leader_y F T hi hc hs kk hl hz1 hv
    · exact lc_leader_n F T hi hc hs kk hl (nz_of h1)
  by_cases h8 : j = 8
  · subst h8
    refine lv_tableIn (off := 456) (tgt := 495) hx hb dL_law_39 (by decide) (by decide) (by decide) (by decide) ?_
    cases hres : srN (fun v j => ed (8 * v + j)) (meN (2 ^ n - 1) n 0) [] 0 with
    | none => exact lc_isLine_n F T hi hc hs kk hl hres
    | some x => exact lc_isLine_y F T hi hc hs kk hl x hres
  by_cases h9 : j = 9
  · subst h9
    refine lv_tableIn (off := 469) (tgt := 508) hx hb dL_law_39 (by decide) (by decide) (by decide) (by decide) ?_
    cases hres : srN (fun v j => ed (8 * v + j)) (meN (2 ^ n - 1) n 0) [] 0 with
    | none => exact lc_ends_n F T hi hc hs kk hl hres
    | some x => exact lc_ends_y F T hi hc hs kk hl x hres
  by_cases h10 : j = 10
  · subst h10
    refine lv_tableIn (off := 513) (tgt := 552) hx hb dL_law_39 (by decide) (by decide) (by decide) (by decide) ?_
    by_cases h1 : ∃ v, v < n ∧ xs (i + 1) = nI v
    · obtain ⟨v, hv, hz1⟩ := h1
      cases hres : srN (fun v j => ed (8 * v + j)) (meN (2 ^ n - 1) n 0) [] 0 with
      | none => exact lc_low_n F T hi hc hs kk hl hz1 hv hres
      | some x => exact lc_low_y F T hi hc hs kk hl hz1 hv x hres
    · exact lc_low_a F T hi hc hs kk hl (nz_of h1)
  by_cases h11 : j = 11
  · subst h11
    refine lv_tableIn (off := 569) (tgt := 608) hx hb dL_law_39 (by decide) (by decide) (by decide) (by decide) ?_
    by_cases h1 : ∃ v, v < n ∧ xs (i + 1) = nI v
    · obtain ⟨v, hv, hz1⟩ := h1
      cases hres : srN (fun v j => ed (8 * v + j)) (meN (2 ^ n - 1) n 0) [] 0 with
      | none => exact lc_high_n F T hi hc hs kk hl hz1 hv hres
      | some x => exact lc_high_y F T hi hc hs kk hl hz1 hv x hres
    · exact lc_high_a F T hi hc hs kk hl (nz_of h1)
  by_cases h12 : j = 12
  · subst h12
    refine lv_tableIn (off := 625) (tgt := 664) hx hb dL_law_39 (by decide) (by decide) (by decide) (by decide) ?_
    cases hres : srN (fun v j => ed (8 * v + j)) (meN (2 ^ n - 1) n 0) [] 0 with
    | none => exact lc_spoiler_y F T hi hc hs kk hl hres
    | some x => exact lc_spoiler_n F T hi hc hs kk hl x hres
  by_cases h13 : j = 13
  · subst h13
    refine lv_tableIn (off := 669) (tgt := 708) hx hb dL_law_39 (by decide) (by decide) (by decide) (by decide) ?_
    exact lc_apart F T hi hc hs kk hl
  by_cases h14 : j = 14
  · subst h14
    refine lv_tableIn (off := 682) (tgt := 721) hx hb dL_law_39 (by decide) (by decide) (by decide) (by decide) ?_
    exact lc_close F T hi hc hs kk hl
  by_cases h15 : j = 15
  · subst h15
    refine lv_tableIn (off := 695) (tgt := 734) hx hb dL_law_39 (by decide) (by decide) (by decide) (by decide) ?_
    cases hres : srN (fun v j => ed (8 * v + j)) (meN (2 ^ n - 1) n 0) [] 0 with
    | none => exact lc_loose_n F T hi hc hs kk hl hres
    | some x => exact lc_loose_y F T hi hc hs kk hl x hres
  by_cases h16 : j = 16
  · subst h16
    refine lv_tableIn (off := 739) (tgt := 778) hx hb dL_law_39 (by decide) (by decide) (by decide) (by decide) ?_
    cases hres : srN (fun v j => ed (8 * v + j)) (meN (2 ^ n - 1) n 0) [] 0 with
    | none => exact lc_barrier_n F T hi hc hs kk hl hres
    | some x => exact lc_barrier_y F T hi hc hs kk hl x hres
  refine lv_tableOut (tgt := 822) hx hb dL_law_39 (Or.inr (by rw [nI_toInt (by omega)]; omega)) (by decide) ?_
  refine W.widen (k := cells + 1) (n := slots + 6) (by omega) (by omega) ?_
  exact kk _ _ _ _ _ _ _ _ ls T hl
end LC
