/-! BY PROGRAM (tools/mkctor.py): the constructors -/
def wFill (k : Nat) (L : List (Nat × Nat)) : List (Nat × Nat) := (k, 9) :: (k, 8) :: (k, 7) :: (k, 6) :: (k, 5) :: (k, 4) :: (k, 3) :: (k, 2) :: (k, 1) :: (k, 0) :: L
theorem wFill_mem {k : Nat} {x : Nat × Nat} {L : List (Nat × Nat)} (h : x ∈ L) : x ∈ wFill k L := List.mem_cons_of_mem _ (List.mem_cons_of_mem _ (List.mem_cons_of_mem _ (List.mem_cons_of_mem _ (List.mem_cons_of_mem _ (List.mem_cons_of_mem _ (List.mem_cons_of_mem _ (List.mem_cons_of_mem _ (List.mem_cons_of_mem _ (List.mem_cons_of_mem _ (h))))))))))
theorem c_Fill {l : Launch} {G : fp_WG} {n k : Nat} {L : List (Nat × Nat)} (hk : fp_lay k = (1, 10)) (hi : fp_iniL.getD k [] = [-4, -4, -4, -4, -4, -4, -4, -4, -4, -4]) (hn : k < n) : fp_OkW l G 0 n 0 0 kJ7_fill_53178 [rV G k, iV (-4)] L (wFill k L) := by
  refine fp_OkW.of (r := 2) (nf := n) rfl (Nat.le_of_ble_eq_true rfl) rfl rfl ?_
  refine SW.s (fun kk => SP.iconst (pc' := 1) dJ7_fill_53178_0 rfl kk) ?_
  refine SW.s (fun kk => SP.istore_n (LL' := [_, _, _, _]) (pc' := 2) dJ7_fill_53178_1 rfl (by decide) rfl rfl rfl kk) ?_
  refine SW.s (fun kk => SP.aload_n (pc' := 3) dJ7_fill_53178_2 rfl rfl rfl kk) ?_
  refine SW.s (fun kk => SP.alen (ty := .int) (pc' := 4) dJ7_fill_53178_3 rfl hk (by decide) rfl hn kk) ?_
  refine SW.s (fun kk => SP.istore_n (LL' := [_, _, _, _]) (pc' := 5) dJ7_fill_53178_4 rfl (by decide) rfl rfl rfl kk) ?_
  refine SW.s (fun kk => SP.iload_n (pc' := 6) dJ7_fill_53178_5 rfl rfl rfl kk) ?_
  refine SW.s (fun kk => SP.iload_n (pc' := 7) dJ7_fill_53178_6 rfl rfl rfl kk) ?_
  refine SW.s (fun kk => SP.icmp_ge (tgt := 20) (pc' := 10) dJ7_fill_53178_7 (by decide) rfl (by unfold fp_rng; decide) (by unfold fp_rng; decide) (fun h => absurd h (by decide)) (fun _ => kk)) ?_
  refine SW.s (fun kk => SP.aload_n (pc' := 11) dJ7_fill_53178_10 rfl rfl rfl kk) ?_
  refine SW.s (fun kk => SP.iload_n (pc' := 12) dJ7_fill_53178_11 rfl rfl rfl kk) ?_
  refine SW.s (fun kk => SP.iload_n (pc' := 13) dJ7_fill_53178_12 rfl rfl rfl kk) ?_
  refine SW.iast (i := 0) (pc' := 14) dJ7_fill_53178_13 rfl hk hn rfl (by decide) (fp_ini_of hi rfl) ?_
  refine SW.s (fun kk => SP.iinc (LL' := [_, _, some (iV 1), _]) (pc' := 17) dJ7_fill_53178_14 rfl (by decide) rfl rfl rfl kk) ?_
  refine SW.s (fun kk => SP.goto (pc' := 5) dJ7_fill_53178_17 (by decide) kk) ?_
  refine SW.s (fun kk => SP.iload_n (pc' := 6) dJ7_fill_53178_5 rfl rfl rfl kk) ?_
  refine SW.s (fun kk => SP.iload_n (pc' := 7) dJ7_fill_53178_6 rfl rfl rfl kk) ?_
  refine SW.s (fun kk => SP.icmp_ge (tgt := 20) (pc' := 10) dJ7_fill_53178_7 (by decide) rfl (by unfold fp_rng; decide) (by unfold fp_rng; decide) (fun h => absurd h (by decide)) (fun _ => kk)) ?_
  refine SW.s (fun kk => SP.aload_n (pc' := 11) dJ7_fill_53178_10 rfl rfl rfl kk) ?_
  refine SW.s (fun kk => SP.iload_n (pc' := 12) dJ7_fill_53178_11 rfl rfl rfl kk) ?_
  refine SW.s (fun kk => SP.iload_n (pc' := 13) dJ7_fill_53178_12 rfl rfl rfl kk) ?_
  refine SW.iast (i := 1) (pc' := 14) dJ7_fill_53178_13 rfl hk hn rfl (by decide) (fp_ini_of hi rfl) ?_
  refine SW.s (fun kk => SP.iinc (LL' := [_, _, some (iV 2), _]) (pc' := 17) dJ7_fill_53178_14 rfl (by decide) rfl rfl rfl kk) ?_
  refine SW.s (fun kk => SP.goto (pc' := 5) dJ7_fill_53178_17 (by decide) kk) ?_
  refine SW.s (fun kk => SP.iload_n (pc' := 6) dJ7_fill_53178_5 rfl rfl rfl kk) ?_
  refine SW.s (fun kk => SP.iload_n (pc' := 7) dJ7_fill_53178_6 rfl rfl rfl kk) ?_
  refine SW.s (fun kk => SP.icmp_ge (tgt := 20) (pc' := 10) dJ7_fill_53178_7 (by decide) rfl (by unfold fp_rng; decide) (by unfold fp_rng; decide) (fun h => absurd h (by decide)) (fun _ => kk)) ?_
  refine SW.s (fun kk => SP.aload_n (pc' := 11) dJ7_fill_53178_10 rfl rfl rfl kk) ?_
  refine SW.s (fun kk => SP.iload_n (pc' := 12) dJ7_fill_53178_11 rfl rfl rfl kk) ?_
  refine SW.s (fun kk => SP.iload_n (pc' := 13) dJ7_fill_53178_12 rfl rfl rfl kk) ?_
  refine SW.iast (i := 2) (pc' := 14) dJ7_fill_53178_13 rfl hk hn rfl (by decide) (fp_ini_of hi rfl) ?_
  refine SW.s (fun kk => SP.iinc (LL' := [_, _, some (iV 3), _]) (pc' := 17) dJ7_fill_53178_14 rfl (by decide) rfl rfl rfl kk) ?_
  refine SW.s (fun kk => SP.goto (pc' := 5) dJ7_fill_53178_17 (by decide) kk) ?_
  refine SW.s (fun kk => SP.iload_n (pc' := 6) dJ7_fill_53178_5 rfl rfl rfl kk) ?_
  refine SW.s (fun kk => SP.iload_n (pc' := 7) dJ7_fill_53178_6 rfl rfl rfl kk) ?_
  refine SW.s (fun kk => SP.icmp_ge (tgt := 20) (pc' := 10) dJ7_fill_53178_7 (by decide) rfl (by unfold fp_rng; decide) (by unfold fp_rng; decide) (fun h => absurd h (by decide)) (fun _ => kk)) ?_
  refine SW.s (fun kk => SP.aload_n (pc' := 11) dJ7_fill_53178_10 rfl rfl rfl kk) ?_
  refine SW.s (fun kk => SP.iload_n (pc' := 12) dJ7_fill_53178_11 rfl rfl rfl kk) ?_
  refine SW.s (fun kk => SP.iload_n (pc' := 13) dJ7_fill_53178_12 rfl rfl rfl kk) ?_
  refine SW.iast (i := 3) (pc' := 14) dJ7_fill_53178_13 rfl hk hn rfl (by decide) (fp_ini_of hi rfl) ?_
  refine SW.s (fun kk => SP.iinc (LL' := [_, _, some (iV 4), _]) (pc' := 17) dJ7_fill_53178_14 rfl (by decide) rfl rfl rfl kk) ?_
  refine SW.s (fun kk => SP.goto (pc' := 5) dJ7_fill_53178_17 (by decide) kk) ?_
  refine SW.s (fun kk => SP.iload_n (pc' := 6) dJ7_fill_53178_5 rfl rfl rfl kk) ?_
  refine SW.s (fun kk => SP.iload_n (pc' := 7) dJ7_fill_53178_6 rfl rfl rfl kk) ?_
  refine SW.s (fun kk => SP.icmp_ge (tgt := 20) (pc' := 10) dJ7_fill_53178_7 (by decide) rfl (by unfold fp_rng; decide) (by unfold fp_rng; decide) (fun h => absurd h (by decide)) (fun _ => kk)) ?_
  refine SW.s (fun kk => SP.aload_n (pc' := 11) dJ7_fill_53178_10 rfl rfl rfl kk) ?_
  refine SW.s (fun kk => SP.iload_n (pc' := 12) dJ7_fill_53178_11 rfl rfl rfl kk) ?_
  refine SW.s (fun kk => SP.iload_n (pc' := 13) dJ7_fill_53178_12 rfl rfl rfl kk) ?_
  refine SW.iast (i := 4) (pc' := 14) dJ7_fill_53178_13 rfl hk hn rfl (by decide) (fp_ini_of hi rfl) ?_
  refine SW.s (fun kk => SP.iinc (LL' := [_, _, some (iV 5), _]) (pc' := 17) dJ7_fill_53178_14 rfl (by decide) rfl rfl rfl kk) ?_
  refine SW.s (fun kk => SP.goto (pc' := 5) dJ7_fill_53178_17 (by decide) kk) ?_
  refine SW.s (fun kk => SP.iload_n (pc' := 6) dJ7_fill_53178_5 rfl rfl rfl kk) ?_
  refine SW.s (fun kk => SP.iload_n (pc' := 7) dJ7_fill_53178_6 rfl rfl rfl kk) ?_
  refine SW.s (fun kk => SP.icmp_ge (tgt := 20) (pc' := 10) dJ7_fill_53178_7 (by decide) rfl (by unfold fp_rng; decide) (by unfold fp_rng; decide) (fun h => absurd h (by decide)) (fun _ => kk)) ?_
  refine SW.s (fun kk => SP.aload_n (pc' := 11) dJ7_fill_53178_10 rfl rfl rfl kk) ?_
  refine SW.s (fun kk => SP.iload_n (pc' := 12) dJ7_fill_53178_11 rfl rfl rfl kk) ?_
  refine SW.s (fun kk => SP.iload_n (pc' := 13) dJ7_fill_53178_12 rfl rfl rfl kk) ?_
  refine SW.iast (i := 5) (pc' := 14) dJ7_fill_53178_13 rfl hk hn rfl (by decide) (fp_ini_of hi rfl) ?_
  refine SW.s (fun kk => SP.iinc (LL' := [_, _, some (iV 6), _]) (pc' := 17) dJ7_fill_53178_14 rfl (by decide) rfl rfl rfl kk) ?_
  refine SW.s (fun kk => SP.goto (pc' := 5) dJ7_fill_53178_17 (by decide) kk) ?_
  refine SW.s (fun kk => SP.iload_n (pc' := 6) dJ7_fill_53178_5 rfl rfl rfl kk) ?_
  refine SW.s (fun kk => SP.iload_n (pc' := 7) dJ7_fill_53178_6 rfl rfl rfl kk) ?_
  refine SW.s (fun kk => SP.icmp_ge (tgt := 20) (pc' := 10) dJ7_fill_53178_7 (by decide) rfl (by unfold fp_rng; decide) (by unfold fp_rng; decide) (fun h => absurd h (by decide)) (fun _ => kk)) ?_
  refine SW.s (fun kk => SP.aload_n (pc' := 11) dJ7_fill_53178_10 rfl rfl rfl kk) ?_
  refine SW.s (fun kk => SP.iload_n (pc' := 12) dJ7_fill_53178_11 rfl rfl rfl kk) ?_
  refine SW.s (fun kk => SP.iload_n (pc' := 13) dJ7_fill_53178_12 rfl rfl rfl kk) ?_
  refine SW.iast (i := 6) (pc' := 14) dJ7_fill_53178_13 rfl hk hn rfl (by decide) (fp_ini_of hi rfl) ?_
  refine SW.s (fun kk => SP.iinc (LL' := [_, _, some (iV 7), _]) (pc' := 17) dJ7_fill_53178_14 rfl (by decide) rfl rfl rfl kk) ?_
  refine SW.s (fun kk => SP.goto (pc' := 5) dJ7_fill_53178_17 (by decide) kk) ?_
  refine SW.s (fun kk => SP.iload_n (pc' := 6) dJ7_fill_53178_5 rfl rfl rfl kk) ?_
  refine SW.s (fun kk => SP.iload_n (pc' := 7) dJ7_fill_53178_6 rfl rfl rfl kk) ?_
  refine SW.s (fun kk => SP.icmp_ge (tgt := 20) (pc' := 10) dJ7_fill_53178_7 (by decide) rfl (by unfold fp_rng; decide) (by unfold fp_rng; decide) (fun h => absurd h (by decide)) (fun _ => kk)) ?_
  refine SW.s (fun kk => SP.aload_n (pc' := 11) dJ7_fill_53178_10 rfl rfl rfl kk) ?_
  refine SW.s (fun kk => SP.iload_n (pc' := 12) dJ7_fill_53178_11 rfl rfl rfl kk) ?_
  refine SW.s (fun kk => SP.iload_n (pc' := 13) dJ7_fill_53178_12 rfl rfl rfl kk) ?_
  refine SW.iast (i := 7) (pc' := 14) dJ7_fill_53178_13 rfl hk hn rfl (by decide) (fp_ini_of hi rfl) ?_
  refine SW.s (fun kk => SP.iinc (LL' := [_, _, some (iV 8), _]) (pc' := 17) dJ7_fill_53178_14 rfl (by decide) rfl rfl rfl kk) ?_
  refine SW.s (fun kk => SP.goto (pc' := 5) dJ7_fill_53178_17 (by decide) kk) ?_
  refine SW.s (fun kk => SP.iload_n (pc' := 6) dJ7_fill_53178_5 rfl rfl rfl kk) ?_
  refine SW.s (fun kk => SP.iload_n (pc' := 7) dJ7_fill_53178_6 rfl rfl rfl kk) ?_
  refine SW.s (fun kk => SP.icmp_ge (tgt := 20) (pc' := 10) dJ7_fill_53178_7 (by decide) rfl (by unfold fp_rng; decide) (by unfold fp_rng; decide) (fun h => absurd h (by decide)) (fun _ => kk)) ?_
  refine SW.s (fun kk => SP.aload_n (pc' := 11) dJ7_fill_53178_10 rfl rfl rfl kk) ?_
  refine SW.s (fun kk => SP.iload_n (pc' := 12) dJ7_fill_53178_11 rfl rfl rfl kk) ?_
  refine SW.s (fun kk => SP.iload_n (pc' := 13) dJ7_fill_53178_12 rfl rfl rfl kk) ?_
  refine SW.iast (i := 8) (pc' := 14) dJ7_fill_53178_13 rfl hk hn rfl (by decide) (fp_ini_of hi rfl) ?_
  refine SW.s (fun kk => SP.iinc (LL' := [_, _, some (iV 9), _]) (pc' := 17) dJ7_fill_53178_14 rfl (by decide) rfl rfl rfl kk) ?_
  refine SW.s (fun kk => SP.goto (pc' := 5) dJ7_fill_53178_17 (by decide) kk) ?_
  refine SW.s (fun kk => SP.iload_n (pc' := 6) dJ7_fill_53178_5 rfl rfl rfl kk) ?_
  refine SW.s (fun kk => SP.iload_n (pc' := 7) dJ7_fill_53178_6 rfl rfl rfl kk) ?_
  refine SW.s (fun kk => SP.icmp_ge (tgt := 20) (pc' := 10) dJ7_fill_53178_7 (by decide) rfl (by unfold fp_rng; decide) (by unfold fp_rng; decide) (fun h => absurd h (by decide)) (fun _ => kk)) ?_
  refine SW.s (fun kk => SP.aload_n (pc' := 11) dJ7_fill_53178_10 rfl rfl rfl kk) ?_
  refine SW.s (fun kk => SP.iload_n (pc' := 12) dJ7_fill_53178_11 rfl rfl rfl kk) ?_
  refine SW.s (fun kk => SP.iload_n (pc' := 13) dJ7_fill_53178_12 rfl rfl rfl kk) ?_
  refine SW.iast (i := 9) (pc' := 14) dJ7_fill_53178_13 rfl hk hn rfl (by decide) (fp_ini_of hi rfl) ?_
  refine SW.s (fun kk => SP.iinc (LL' := [_, _, some (iV 10), _]) (pc' := 17) dJ7_fill_53178_14 rfl (by decide) rfl rfl rfl kk) ?_
  refine SW.s (fun kk => SP.goto (pc' := 5) dJ7_fill_53178_17 (by decide) kk) ?_
  refine SW.s (fun kk => SP.iload_n (pc' := 6) dJ7_fill_53178_5 rfl rfl rfl kk) ?_
  refine SW.s (fun kk => SP.iload_n (pc' := 7) dJ7_fill_53178_6 rfl rfl rfl kk) ?_
  refine SW.s (fun kk => SP.icmp_ge (tgt := 20) (pc' := 10) dJ7_fill_53178_7 (by decide) rfl (by unfold fp_rng; decide) (by unfold fp_rng; decide) (fun _ => kk) (fun h => absurd (by decide) h)) ?_
  exact SW.ret dJ7_fill_53178_20 rfl
def wGoods (k : Nat) (L : List (Nat × Nat)) : List (Nat × Nat) := (k, 5) :: (k, 4) :: (k, 3) :: (k, 2) :: L
theorem wGoods_mem {k : Nat} {x : Nat × Nat} {L : List (Nat × Nat)} (h : x ∈ L) : x ∈ wGoods k L := List.mem_cons_of_mem _ (List.mem_cons_of_mem _ (List.mem_cons_of_mem _ (List.mem_cons_of_mem _ (h))))
theorem c_Goods {l : Launch} {G : fp_WG} {L : List (Nat × Nat)} {k : Nat} (l0 : fp_lay k = (0, 1)) (i0 : fp_iniL.getD k [] = [0, 0, 10, (((k + 1) : Nat) : Int) + 1, (((k + 2) : Nat) : Int) + 1, (((k + 3) : Nat) : Int) + 1]) (l1 : fp_lay (k + 1) = (1, 11)) (l2 : fp_lay (k + 2) = (1, 44)) (l3 : fp_lay (k + 3) = (1, 3)) : fp_OkW l G 1 (k + 1) 3 58 kX1_init [rV G k] L (wGoods k L) := by
  refine fp_OkW.of (r := 0) (nf := (k + 4)) rfl (Nat.le_of_ble_eq_true rfl) rfl rfl ?_
  refine SW.s (fun kk => SP.aload_n (pc' := 1) dX1_init_0 rfl rfl rfl kk) ?_
  refine SW.s (fun kk => SP.objInit (pc' := 4) dX1_init_1 rfl oX1_3 (by decide) (Nat.le_of_ble_eq_true rfl) kk) ?_
  refine SW.s (fun kk => SP.aload_n (pc' := 5) dX1_init_4 rfl rfl rfl kk) ?_
  refine SW.s (fun kk => SP.bipush (pc' := 7) dX1_init_5 rfl rfl kk) ?_
  refine SW.putI (pc' := 10) dX1_init_7 rfl fX1_9 l0 (by omega) rfl (fun q h => by cases h; rfl) (fp_ini_of i0 rfl) ?_
  refine SW.s (fun kk => SP.aload_n (pc' := 11) dX1_init_10 rfl rfl rfl kk) ?_
  refine SW.s (fun kk => SP.bipush (pc' := 13) dX1_init_11 rfl rfl kk) ?_
  refine SW.newI (pc' := 15) dX1_init_13 rfl l1 rfl (n' := (k + 2)) (cs' := 1) (ss' := 11) rfl rfl rfl (by decide) (by decide) ?_
  refine SW.putR (t := (k + 1)) (pc' := 18) dX1_init_15 rfl fX1_15 l0 (by omega) rfl (fun q h => by cases h; rfl) (Or.inr ⟨_, rfl⟩) (fp_ini_of i0 rfl) ?_
  refine SW.s (fun kk => SP.aload_n (pc' := 19) dX1_init_18 rfl rfl rfl kk) ?_
  refine SW.s (fun kk => SP.bipush (pc' := 21) dX1_init_19 rfl rfl kk) ?_
  refine SW.newI (pc' := 23) dX1_init_21 rfl l2 rfl (n' := (k + 3)) (cs' := 2) (ss' := 55) rfl rfl rfl (by decide) (by decide) ?_
  refine SW.putR (t := (k + 2)) (pc' := 26) dX1_init_23 rfl fX1_19 l0 (by omega) rfl (fun q h => by cases h; rfl) (Or.inr ⟨_, rfl⟩) (fp_ini_of i0 rfl) ?_
  refine SW.s (fun kk => SP.aload_n (pc' := 27) dX1_init_26 rfl rfl rfl kk) ?_
  refine SW.s (fun kk => SP.iconst (pc' := 28) dX1_init_27 rfl kk) ?_
  refine SW.newI (pc' := 30) dX1_init_28 rfl l3 rfl (n' := (k + 4)) (cs' := 3) (ss' := 58) rfl rfl rfl (by decide) (by decide) ?_
  refine SW.putR (t := (k + 3)) (pc' := 33) dX1_init_30 rfl fX1_22 l0 (by omega) rfl (fun q h => by cases h; rfl) (Or.inr ⟨_, rfl⟩) (fp_ini_of i0 rfl) ?_
  exact SW.ret dX1_init_33 rfl
def wPlaces (k : Nat) (L : List (Nat × Nat)) : List (Nat × Nat) := wFill (k + 2) (wFill (k + 1) ((k, 3) :: (k, 2) :: (k, 1) :: (k, 0) :: L))
theorem wPlaces_mem {k : Nat} {x : Nat × Nat} {L : List (Nat × Nat)} (h : x ∈ L) : x ∈ wPlaces k L := wFill_mem (wFill_mem (List.mem_cons_of_mem _ (List.mem_cons_of_mem _ (List.mem_cons_of_mem _ (List.mem_cons_of_mem _ (h))))))
theorem c_Places {l : Launch} {G : fp_WG} {L : List (Nat × Nat)} {k : Nat} (l0 : fp_lay k = (0, 5)) (i0 : fp_iniL.getD k [] = [(((k + 1) : Nat) : Int) + 1, (((k + 2) : Nat) : Int) + 1, (((k + 3) : Nat) : Int) + 1, (((k + 4) : Nat) : Int) + 1]) (l1 : fp_lay (k + 1) = (1, 10)) (i1 : fp_iniL.getD (k + 1) [] = [-4, -4, -4, -4, -4, -4, -4, -4, -4, -4]) (l2 : fp_lay (k + 2) = (1, 10)) (i2 : fp_iniL.getD (k + 2) [] = [-4, -4, -4, -4, -4, -4, -4, -4, -4, -4]) (l3 : fp_lay (k + 3) = (1, 3)) (l4 : fp_lay (k + 4) = (1, 24)) : fp_OkW l G 1 (k + 1) 4 47 kX5_init [rV G k] L (wPlaces k L) := by
  refine fp_OkW.of (r := 0) (nf := (k + 5)) rfl (Nat.le_of_ble_eq_true rfl) rfl rfl ?_
  refine SW.s (fun kk => SP.aload_n (pc' := 1) dX5_init_0 rfl rfl rfl kk) ?_
  refine SW.s (fun kk => SP.objInit (pc' := 4) dX5_init_1 rfl oX5_3 (by decide) (Nat.le_of_ble_eq_true rfl) kk) ?_
  refine SW.s (fun kk => SP.aload_n (pc' := 5) dX5_init_4 rfl rfl rfl kk) ?_
  refine SW.s (fun kk => SP.bipush (pc' := 7) dX5_init_5 rfl rfl kk) ?_
  refine SW.newI (pc' := 9) dX5_init_7 rfl l1 rfl (n' := (k + 2)) (cs' := 1) (ss' := 10) rfl rfl rfl (by decide) (by decide) ?_
  refine SW.putR (t := (k + 1)) (pc' := 12) dX5_init_9 rfl fX5_9 l0 (by omega) rfl (fun q h => by cases h; rfl) (Or.inr ⟨_, rfl⟩) (fp_ini_of i0 rfl) ?_
  refine SW.s (fun kk => SP.aload_n (pc' := 13) dX5_init_12 rfl rfl rfl kk) ?_
  refine SW.s (fun kk => SP.bipush (pc' := 15) dX5_init_13 rfl rfl kk) ?_
  refine SW.newI (pc' := 17) dX5_init_15 rfl l2 rfl (n' := (k + 3)) (cs' := 2) (ss' := 20) rfl rfl rfl (by decide) (by decide) ?_
  refine SW.putR (t := (k + 2)) (pc' := 20) dX5_init_17 rfl fX5_15 l0 (by omega) rfl (fun q h => by cases h; rfl) (Or.inr ⟨_, rfl⟩) (fp_ini_of i0 rfl) ?_
  refine SW.s (fun kk => SP.aload_n (pc' := 21) dX5_init_20 rfl rfl rfl kk) ?_
  refine SW.s (fun kk => SP.iconst (pc' := 22) dX5_init_21 rfl kk) ?_
  refine SW.newI (pc' := 24) dX5_init_22 rfl l3 rfl (n' := (k + 4)) (cs' := 3) (ss' := 23) rfl rfl rfl (by decide) (by decide) ?_
  refine SW.putR (t := (k + 3)) (pc' := 27) dX5_init_24 rfl fX5_18 l0 (by omega) rfl (fun q h => by cases h; rfl) (Or.inr ⟨_, rfl⟩) (fp_ini_of i0 rfl) ?_
  refine SW.s (fun kk => SP.aload_n (pc' := 28) dX5_init_27 rfl rfl rfl kk) ?_
  refine SW.s (fun kk => SP.bipush (pc' := 30) dX5_init_28 rfl rfl kk) ?_
  refine SW.newI (pc' := 32) dX5_init_30 rfl l4 rfl (n' := (k + 5)) (cs' := 4) (ss' := 47) rfl rfl rfl (by decide) (by decide) ?_
  refine SW.putR (t := (k + 4)) (pc' := 35) dX5_init_32 rfl fX5_21 l0 (by omega) rfl (fun q h => by cases h; rfl) (Or.inr ⟨_, rfl⟩) (fp_ini_of i0 rfl) ?_
  refine SW.s (fun kk => SP.aload_n (pc' := 36) dX5_init_35 rfl rfl rfl kk) ?_
  refine SW.getR (t := (k + 1)) (pc' := 39) dX5_init_36 rfl fX5_9 l0 (by omega) (fp_ini_of i0 rfl) (List.mem_cons_of_mem _ (List.mem_cons_of_mem _ (List.mem_cons_of_mem _ List.mem_cons_self))) ?_
  refine SW.s (fun kk => SP.bipush (pc' := 41) dX5_init_39 rfl rfl kk) ?_
  refine SW.callF (pc' := 44) dX5_init_41 rfl cX5_24 (by decide) (by decide) (by decide) (Nat.le_of_ble_eq_true rfl) (c_Fill l1 i1 (by omega)) ?_
  refine SW.s (fun kk => SP.aload_n (pc' := 45) dX5_init_44 rfl rfl rfl kk) ?_
  refine SW.getR (t := (k + 2)) (pc' := 48) dX5_init_45 rfl fX5_15 l0 (by omega) (fp_ini_of i0 rfl) (wFill_mem (List.mem_cons_of_mem _ (List.mem_cons_of_mem _ List.mem_cons_self))) ?_
  refine SW.s (fun kk => SP.bipush (pc' := 50) dX5_init_48 rfl rfl kk) ?_
  refine SW.callF (pc' := 53) dX5_init_50 rfl cX5_24 (by decide) (by decide) (by decide) (Nat.le_of_ble_eq_true rfl) (c_Fill l2 i2 (by omega)) ?_
  exact SW.ret dX5_init_53 rfl
def wVisits (k : Nat) (L : List (Nat × Nat)) : List (Nat × Nat) := (k, 4) :: (k, 3) :: (k, 2) :: (k, 1) :: L
theorem wVisits_mem {k : Nat} {x : Nat × Nat} {L : List (Nat × Nat)} (h : x ∈ L) : x ∈ wVisits k L := List.mem_cons_of_mem _ (List.mem_cons_of_mem _ (List.mem_cons_of_mem _ (List.mem_cons_of_mem _ (h))))
theorem c_Visits {l : Launch} {G : fp_WG} {L : List (Nat × Nat)} {k : Nat} (l0 : fp_lay k = (0, 10)) (i0 : fp_iniL.getD k [] = [0, (((k + 1) : Nat) : Int) + 1, (((k + 2) : Nat) : Int) + 1, (((k + 3) : Nat) : Int) + 1, (((k + 4) : Nat) : Int) + 1]) (l1 : fp_lay (k + 1) = (1, 12)) (l2 : fp_lay (k + 2) = (1, 12)) (l3 : fp_lay (k + 3) = (1, 12)) (l4 : fp_lay (k + 4) = (1, 12)) : fp_OkW l G 1 (k + 1) 4 48 kX10_init [rV G k] L (wVisits k L) := by
  refine fp_OkW.of (r := 0) (nf := (k + 5)) rfl (Nat.le_of_ble_eq_true rfl) rfl rfl ?_
  refine SW.s (fun kk => SP.aload_n (pc' := 1) dX10_init_0 rfl rfl rfl kk) ?_
  refine SW.s (fun kk => SP.objInit (pc' := 4) dX10_init_1 rfl oX10_3 (by decide) (Nat.le_of_ble_eq_true rfl) kk) ?_
  refine SW.s (fun kk => SP.aload_n (pc' := 5) dX10_init_4 rfl rfl rfl kk) ?_
  refine SW.s (fun kk => SP.bipush (pc' := 7) dX10_init_5 rfl rfl kk) ?_
  refine SW.newI (pc' := 9) dX10_init_7 rfl l1 rfl (n' := (k + 2)) (cs' := 1) (ss' := 12) rfl rfl rfl (by decide) (by decide) ?_
  refine SW.putR (t := (k + 1)) (pc' := 12) dX10_init_9 rfl fX10_9 l0 (by omega) rfl (fun q h => by cases h; rfl) (Or.inr ⟨_, rfl⟩) (fp_ini_of i0 rfl) ?_
  refine SW.s (fun kk => SP.aload_n (pc' := 13) dX10_init_12 rfl rfl rfl kk) ?_
  refine SW.s (fun kk => SP.bipush (pc' := 15) dX10_init_13 rfl rfl kk) ?_
  refine SW.newI (pc' := 17) dX10_init_15 rfl l2 rfl (n' := (k + 3)) (cs' := 2) (ss' := 24) rfl rfl rfl (by decide) (by decide) ?_
  refine SW.putR (t := (k + 2)) (pc' := 20) dX10_init_17 rfl fX10_15 l0 (by omega) rfl (fun q h => by cases h; rfl) (Or.inr ⟨_, rfl⟩) (fp_ini_of i0 rfl) ?_
  refine SW.s (fun kk => SP.aload_n (pc' := 21) dX10_init_20 rfl rfl rfl kk) ?_
  refine SW.s (fun kk => SP.bipush (pc' := 23) dX10_init_21 rfl rfl kk) ?_
  refine SW.newI (pc' := 25) dX10_init_23 rfl l3 rfl (n' := (k + 4)) (cs' := 3) (ss' := 36) rfl rfl rfl (by decide) (by decide) ?_
  refine SW.putR (t := (k + 3)) (pc' := 28) dX10_init_25 rfl fX10_18 l0 (by omega) rfl (fun q h => by cases h; rfl) (Or.inr ⟨_, rfl⟩) (fp_ini_of i0 rfl) ?_
  refine SW.s (fun kk => SP.aload_n (pc' := 29) dX10_init_28 rfl rfl rfl kk) ?_
  refine SW.s (fun kk => SP.bipush (pc' := 31) dX10_init_29 rfl rfl kk) ?_
  refine SW.newI (pc' := 33) dX10_init_31 rfl l4 rfl (n' := (k + 5)) (cs' := 4) (ss' := 48) rfl rfl rfl (by decide) (by decide) ?_
  refine SW.putR (t := (k + 4)) (pc' := 36) dX10_init_33 rfl fX10_21 l0 (by omega) rfl (fun q h => by cases h; rfl) (Or.inr ⟨_, rfl⟩) (fp_ini_of i0 rfl) ?_
  exact SW.ret dX10_init_36 rfl
def wNotes (k : Nat) (L : List (Nat × Nat)) : List (Nat × Nat) := (k, 1) :: L
theorem wNotes_mem {k : Nat} {x : Nat × Nat} {L : List (Nat × Nat)} (h : x ∈ L) : x ∈ wNotes k L := List.mem_cons_of_mem _ (h)
theorem c_Notes {l : Launch} {G : fp_WG} {L : List (Nat × Nat)} {k : Nat} (l0 : fp_lay k = (0, 3)) (i0 : fp_iniL.getD k [] = [0, (((k + 1) : Nat) : Int) + 1]) (l1 : fp_lay (k + 1) = (1, 8)) : fp_OkW l G 1 (k + 1) 1 8 kX3_init [rV G k] L (wNotes k L) := by
  refine fp_OkW.of (r := 0) (nf := (k + 2)) rfl (Nat.le_of_ble_eq_true rfl) rfl rfl ?_
  refine SW.s (fun kk => SP.aload_n (pc' := 1) dX3_init_0 rfl rfl rfl kk) ?_
  refine SW.s (fun kk => SP.objInit (pc' := 4) dX3_init_1 rfl oX3_3 (by decide) (Nat.le_of_ble_eq_true rfl) kk) ?_
  refine SW.s (fun kk => SP.aload_n (pc' := 5) dX3_init_4 rfl rfl rfl kk) ?_
  refine SW.s (fun kk => SP.bipush (pc' := 7) dX3_init_5 rfl rfl kk) ?_
  refine SW.newI (pc' := 9) dX3_init_7 rfl l1 rfl (n' := (k + 2)) (cs' := 1) (ss' := 8) rfl rfl rfl (by decide) (by decide) ?_
  refine SW.putR (t := (k + 1)) (pc' := 12) dX3_init_9 rfl fX3_9 l0 (by omega) rfl (fun q h => by cases h; rfl) (Or.inr ⟨_, rfl⟩) (fp_ini_of i0 rfl) ?_
  exact SW.ret dX3_init_12 rfl
def wSheet (k : Nat) (L : List (Nat × Nat)) : List (Nat × Nat) := (k, 2) :: (k, 1) :: L
theorem wSheet_mem {k : Nat} {x : Nat × Nat} {L : List (Nat × Nat)} (h : x ∈ L) : x ∈ wSheet k L := List.mem_cons_of_mem _ (List.mem_cons_of_mem _ (h))
theorem c_Sheet {l : Launch} {G : fp_WG} {L : List (Nat × Nat)} {k : Nat} (l0 : fp_lay k = (0, 9)) (i0 : fp_iniL.getD k [] = [0, -4, (((k + 1) : Nat) : Int) + 1]) (l1 : fp_lay (k + 1) = (1, 40)) : fp_OkW l G 1 (k + 1) 1 40 kX9_init [rV G k] L (wSheet k L) := by
  refine fp_OkW.of (r := 0) (nf := (k + 2)) rfl (Nat.le_of_ble_eq_true rfl) rfl rfl ?_
  refine SW.s (fun kk => SP.aload_n (pc' := 1) dX9_init_0 rfl rfl rfl kk) ?_
  refine SW.s (fun kk => SP.objInit (pc' := 4) dX9_init_1 rfl oX9_3 (by decide) (Nat.le_of_ble_eq_true rfl) kk) ?_
  refine SW.s (fun kk => SP.aload_n (pc' := 5) dX9_init_4 rfl rfl rfl kk) ?_
  refine SW.s (fun kk => SP.bipush (pc' := 7) dX9_init_5 rfl rfl kk) ?_
  refine SW.putI (pc' := 10) dX9_init_7 rfl fX9_9 l0 (by omega) rfl (fun q h => by cases h; rfl) (fp_ini_of i0 rfl) ?_
  refine SW.s (fun kk => SP.aload_n (pc' := 11) dX9_init_10 rfl rfl rfl kk) ?_
  refine SW.s (fun kk => SP.bipush (pc' := 13) dX9_init_11 rfl rfl kk) ?_
  refine SW.newI (pc' := 15) dX9_init_13 rfl l1 rfl (n' := (k + 2)) (cs' := 1) (ss' := 40) rfl rfl rfl (by decide) (by decide) ?_
  refine SW.putR (t := (k + 1)) (pc' := 18) dX9_init_15 rfl fX9_15 l0 (by omega) rfl (fun q h => by cases h; rfl) (Or.inr ⟨_, rfl⟩) (fp_ini_of i0 rfl) ?_
  exact SW.ret dX9_init_18 rfl
def wImage (k : Nat) (L : List (Nat × Nat)) : List (Nat × Nat) := (k, 3) :: wNotes (k + 11) ((k, 2) :: wVisits (k + 6) ((k, 1) :: wPlaces (k + 1) (L)))
theorem wImage_mem {k : Nat} {x : Nat × Nat} {L : List (Nat × Nat)} (h : x ∈ L) : x ∈ wImage k L := List.mem_cons_of_mem _ (wNotes_mem (List.mem_cons_of_mem _ (wVisits_mem (List.mem_cons_of_mem _ (wPlaces_mem (h))))))
theorem c_Image {l : Launch} {G : fp_WG} {L : List (Nat × Nat)} {k : Nat} (l0 : fp_lay k = (0, 2)) (i0 : fp_iniL.getD k [] = [0, (((k + 1) : Nat) : Int) + 1, (((k + 6) : Nat) : Int) + 1, (((k + 11) : Nat) : Int) + 1]) (l1 : fp_lay (k + 1) = (0, 5)) (i1 : fp_iniL.getD (k + 1) [] = [(((k + 2) : Nat) : Int) + 1, (((k + 3) : Nat) : Int) + 1, (((k + 4) : Nat) : Int) + 1, (((k + 5) : Nat) : Int) + 1]) (l2 : fp_lay (k + 2) = (1, 10)) (i2 : fp_iniL.getD (k + 2) [] = [-4, -4, -4, -4, -4, -4, -4, -4, -4, -4]) (l3 : fp_lay (k + 3) = (1, 10)) (i3 : fp_iniL.getD (k + 3) [] = [-4, -4, -4, -4, -4, -4, -4, -4, -4, -4]) (l4 : fp_lay (k + 4) = (1, 3)) (l5 : fp_lay (k + 5) = (1, 24)) (l6 : fp_lay (k + 6) = (0, 10)) (i6 : fp_iniL.getD (k + 6) [] = [0, (((k + 7) : Nat) : Int) + 1, (((k + 8) : Nat) : Int) + 1, (((k + 9) : Nat) : Int) + 1, (((k + 10) : Nat) : Int) + 1]) (l7 : fp_lay (k + 7) = (1, 12)) (l8 : fp_lay (k + 8) = (1, 12)) (l9 : fp_lay (k + 9) = (1, 12)) (l10 : fp_lay (k + 10) = (1, 12)) (l11 : fp_lay (k + 11) = (0, 3)) (i11 : fp_iniL.getD (k + 11) [] = [0, (((k + 12) : Nat) : Int) + 1]) (l12 : fp_lay (k + 12) = (1, 8)) : fp_OkW l G 2 (k + 1) 12 114 kX2_init [rV G k] L (wImage k L) := by
  refine fp_OkW.of (r := 0) (nf := (k + 13)) rfl (Nat.le_of_ble_eq_true rfl) rfl rfl ?_
  refine SW.s (fun kk => SP.aload_n (pc' := 1) dX2_init_0 rfl rfl rfl kk) ?_
  refine SW.s (fun kk => SP.objInit (pc' := 4) dX2_init_1 rfl oX2_1 (by decide) (Nat.le_of_ble_eq_true rfl) kk) ?_
  refine SW.s (fun kk => SP.aload_n (pc' := 5) dX2_init_4 rfl rfl rfl kk) ?_
  refine SW.newO (pc' := 8) dX2_init_5 rfl nX2_7 l1 (n' := (k + 2)) (cs' := 1) (ss' := 4) rfl rfl rfl (by decide) (by decide) ?_
  refine SW.s (fun kk => SP.dup (pc' := 9) dX2_init_8 rfl rfl kk) ?_
  refine SW.callI (pc' := 12) dX2_init_9 rfl cX2_9 mX5_init vX5_init rfl rfl (by decide) (n' := (k + 6)) (cs' := 5) (ss' := 51) rfl rfl rfl (by decide) (by decide) (Nat.le_of_ble_eq_true rfl) (c_Places (k := (k + 1)) l1 i1 l2 i2 l3 i3 l4 l5) ?_
  refine SW.putR (t := (k + 1)) (pc' := 15) dX2_init_12 rfl fX2_10 l0 (by omega) rfl (fun q h => by cases h; rfl) (Or.inl ⟨_, rfl⟩) (fp_ini_of i0 rfl) ?_
  refine SW.s (fun kk => SP.aload_n (pc' := 16) dX2_init_15 rfl rfl rfl kk) ?_
  refine SW.newO (pc' := 19) dX2_init_16 rfl nX2_16 l6 (n' := (k + 7)) (cs' := 6) (ss' := 56) rfl rfl rfl (by decide) (by decide) ?_
  refine SW.s (fun kk => SP.dup (pc' := 20) dX2_init_19 rfl rfl kk) ?_
  refine SW.callIN (pc' := 23) dX2_init_20 rfl cX2_18 mX10_init vX10_init rfl rfl (by decide) (n' := (k + 11)) (cs' := 10) (ss' := 104) rfl rfl rfl (by decide) (by decide) (Nat.le_of_ble_eq_true rfl) (c_Visits (k := (k + 6)) l6 i6 l7 l8 l9 l10) ?_
  refine SW.putR (t := (k + 6)) (pc' := 26) dX2_init_23 rfl fX2_19 l0 (by omega) rfl (fun q h => by cases h; rfl) (Or.inl ⟨_, rfl⟩) (fp_ini_of i0 rfl) ?_
  refine SW.s (fun kk => SP.aload_n (pc' := 27) dX2_init_26 rfl rfl rfl kk) ?_
  refine SW.newO (pc' := 30) dX2_init_27 rfl nX2_23 l11 (n' := (k + 12)) (cs' := 11) (ss' := 106) rfl rfl rfl (by decide) (by decide) ?_
  refine SW.s (fun kk => SP.dup (pc' := 31) dX2_init_30 rfl rfl kk) ?_
  refine SW.callIN (pc' := 34) dX2_init_31 rfl cX2_25 mX3_init vX3_init rfl rfl (by decide) (n' := (k + 13)) (cs' := 12) (ss' := 114) rfl rfl rfl (by decide) (by decide) (Nat.le_of_ble_eq_true rfl) (c_Notes (k := (k + 11)) l11 i11 l12) ?_
  refine SW.putR (t := (k + 11)) (pc' := 37) dX2_init_34 rfl fX2_26 l0 (by omega) rfl (fun q h => by cases h; rfl) (Or.inl ⟨_, rfl⟩) (fp_ini_of i0 rfl) ?_
  exact SW.ret dX2_init_37 rfl
def wReader (L : List (Nat × Nat)) : List (Nat × Nat) := (2, 5) :: (2, 2) :: wVisits 12 ((2, 1) :: wPlaces 7 ((2, 0) :: wGoods 3 (L)))
theorem wReader_mem {x : Nat × Nat} {L : List (Nat × Nat)} (h : x ∈ L) : x ∈ wReader L := List.mem_cons_of_mem _ (List.mem_cons_of_mem _ (wVisits_mem (List.mem_cons_of_mem _ (wPlaces_mem (List.mem_cons_of_mem _ (wGoods_mem (h)))))))
theorem c_Reader {l : Launch} {G : fp_WG} {L : List (Nat × Nat)}  : fp_OkW l G 2 3 15 168 kX6_init [rV G 2] L (wReader L) := by
  refine fp_OkW.of (r := 0) (nf := 18) rfl (Nat.le_of_ble_eq_true rfl) rfl rfl ?_
  refine SW.s (fun kk => SP.aload_n (pc' := 1) dX6_init_0 rfl rfl rfl kk) ?_
  refine SW.s (fun kk => SP.objInit (pc' := 4) dX6_init_1 rfl oX6_3 (by decide) (Nat.le_of_ble_eq_true rfl) kk) ?_
  refine SW.s (fun kk => SP.aload_n (pc' := 5) dX6_init_4 rfl rfl rfl kk) ?_
  refine SW.newO (pc' := 8) dX6_init_5 rfl nX6_9 rfl (n' := 4) (cs' := 1) (ss' := 6) rfl rfl rfl (by decide) (by decide) ?_
  refine SW.s (fun kk => SP.dup (pc' := 9) dX6_init_8 rfl rfl kk) ?_
  refine SW.callIN (pc' := 12) dX6_init_9 rfl cX6_11 mX1_init vX1_init rfl rfl (by decide) (n' := 7) (cs' := 4) (ss' := 64) rfl rfl rfl (by decide) (by decide) (Nat.le_of_ble_eq_true rfl) (c_Goods (k := 3) rfl (by decide +kernel) rfl rfl rfl) ?_
  refine SW.putR (t := 3) (pc' := 15) dX6_init_12 rfl fX6_12 rfl (by decide) rfl (fun q h => by cases h; rfl) (Or.inl ⟨_, rfl⟩) (by decide +kernel) ?_
  refine SW.s (fun kk => SP.aload_n (pc' := 16) dX6_init_15 rfl rfl rfl kk) ?_
  refine SW.newO (pc' := 19) dX6_init_16 rfl nX6_18 rfl (n' := 8) (cs' := 5) (ss' := 68) rfl rfl rfl (by decide) (by decide) ?_
  refine SW.s (fun kk => SP.dup (pc' := 20) dX6_init_19 rfl rfl kk) ?_
  refine SW.callI (pc' := 23) dX6_init_20 rfl cX6_20 mX5_init vX5_init rfl rfl (by decide) (n' := 12) (cs' := 9) (ss' := 115) rfl rfl rfl (by decide) (by decide) (Nat.le_of_ble_eq_true rfl) (c_Places (k := 7) rfl (by decide +kernel) rfl (by decide +kernel) rfl (by decide +kernel) rfl rfl) ?_
  refine SW.putR (t := 7) (pc' := 26) dX6_init_23 rfl fX6_21 rfl (by decide) rfl (fun q h => by cases h; rfl) (Or.inl ⟨_, rfl⟩) (by decide +kernel) ?_
  refine SW.s (fun kk => SP.aload_n (pc' := 27) dX6_init_26 rfl rfl rfl kk) ?_
  refine SW.newO (pc' := 30) dX6_init_27 rfl nX6_25 rfl (n' := 13) (cs' := 10) (ss' := 120) rfl rfl rfl (by decide) (by decide) ?_
  refine SW.s (fun kk => SP.dup (pc' := 31) dX6_init_30 rfl rfl kk) ?_
  refine SW.callIN (pc' := 34) dX6_init_31 rfl cX6_27 mX10_init vX10_init rfl rfl (by decide) (n' := 17) (cs' := 14) (ss' := 168) rfl rfl rfl (by decide) (by decide) (Nat.le_of_ble_eq_true rfl) (c_Visits (k := 12) rfl (by decide +kernel) rfl rfl rfl rfl) ?_
  refine SW.putR (t := 12) (pc' := 37) dX6_init_34 rfl fX6_28 rfl (by decide) rfl (fun q h => by cases h; rfl) (Or.inl ⟨_, rfl⟩) (by decide +kernel) ?_
  refine SW.s (fun kk => SP.aload_n (pc' := 38) dX6_init_37 rfl rfl rfl kk) ?_
  refine SW.s (fun kk => SP.iconst (pc' := 39) dX6_init_38 rfl kk) ?_
  refine SW.newB (pc' := 41) dX6_init_39 rfl rfl rfl (n' := 18) (cs' := 15) (ss' := 168) rfl rfl rfl (by decide) (by decide) ?_
  refine SW.putR (t := 17) (pc' := 44) dX6_init_41 rfl fX6_32 rfl (by decide) rfl (fun q h => by cases h; rfl) (Or.inr ⟨_, rfl⟩) (by decide +kernel) ?_
  exact SW.ret dX6_init_44 rfl
def wRuns (L : List (Nat × Nat)) : List (Nat × Nat) := (36, 2) :: wPlaces 116 ((36, 1) :: wPlaces 111 ((36, 0) :: wPlaces 106 ((35, 12) :: wPlaces 101 ((35, 11) :: wPlaces 96 ((35, 10) :: wPlaces 91 ((35, 9) :: wPlaces 86 ((35, 8) :: wPlaces 81 ((35, 7) :: wPlaces 76 ((35, 6) :: wPlaces 71 ((35, 5) :: wPlaces 66 ((35, 4) :: wPlaces 61 ((35, 3) :: wPlaces 56 ((35, 2) :: wPlaces 51 ((35, 1) :: wPlaces 46 ((35, 0) :: wPlaces 41 ((34, 6) :: (34, 5) :: (34, 4) :: (34, 2) :: (34, 1) :: (34, 0) :: L))))))))))))))))
theorem wRuns_mem {x : Nat × Nat} {L : List (Nat × Nat)} (h : x ∈ L) : x ∈ wRuns L := List.mem_cons_of_mem _ (wPlaces_mem (List.mem_cons_of_mem _ (wPlaces_mem (List.mem_cons_of_mem _ (wPlaces_mem (List.mem_cons_of_mem _ (wPlaces_mem (List.mem_cons_of_mem _ (wPlaces_mem (List.mem_cons_of_mem _ (wPlaces_mem (List.mem_cons_of_mem _ (wPlaces_mem (List.mem_cons_of_mem _ (wPlaces_mem (List.mem_cons_of_mem _ (wPlaces_mem (List.mem_cons_of_mem _ (wPlaces_mem (List.mem_cons_of_mem _ (wPlaces_mem (List.mem_cons_of_mem _ (wPlaces_mem (List.mem_cons_of_mem _ (wPlaces_mem (List.mem_cons_of_mem _ (wPlaces_mem (List.mem_cons_of_mem _ (wPlaces_mem (List.mem_cons_of_mem _ (wPlaces_mem (List.mem_cons_of_mem _ (List.mem_cons_of_mem _ (List.mem_cons_of_mem _ (List.mem_cons_of_mem _ (List.mem_cons_of_mem _ (List.mem_cons_of_mem _ (h))))))))))))))))))))))))))))))))))))))
theorem c_Runs {l : Launch} {G : fp_WG} {L : List (Nat × Nat)}  : fp_OkW l G 2 35 86 869 kX8_init [rV G 34] L (wRuns L) := by
  refine fp_OkW.of (r := 1) (nf := 121) rfl (Nat.le_of_ble_eq_true rfl) rfl rfl ?_
  refine SW.s (fun kk => SP.aload_n (pc' := 1) dX8_init_0 rfl rfl rfl kk) ?_
  refine SW.s (fun kk => SP.objInit (pc' := 4) dX8_init_1 rfl oX8_3 (by decide) (Nat.le_of_ble_eq_true rfl) kk) ?_
  refine SW.s (fun kk => SP.aload_n (pc' := 5) dX8_init_4 rfl rfl rfl kk) ?_
  refine SW.s (fun kk => SP.bipush (pc' := 7) dX8_init_5 rfl rfl kk) ?_
  refine SW.anewP (pc' := 10) dX8_init_7 rfl kX8_9 rfl rfl (n' := 36) (cs' := 1) (ss' := 13) rfl rfl rfl (by decide) (by decide) ?_
  refine SW.putR (t := 35) (pc' := 13) dX8_init_10 rfl fX8_11 rfl (by decide) rfl (fun q h => by cases h; rfl) (Or.inr ⟨_, rfl⟩) (by decide +kernel) ?_
  refine SW.s (fun kk => SP.aload_n (pc' := 14) dX8_init_13 rfl rfl rfl kk) ?_
  refine SW.s (fun kk => SP.iconst (pc' := 15) dX8_init_14 rfl kk) ?_
  refine SW.anewP (pc' := 18) dX8_init_15 rfl kX8_9 rfl rfl (n' := 37) (cs' := 2) (ss' := 16) rfl rfl rfl (by decide) (by decide) ?_
  refine SW.putR (t := 36) (pc' := 21) dX8_init_18 rfl fX8_17 rfl (by decide) rfl (fun q h => by cases h; rfl) (Or.inr ⟨_, rfl⟩) (by decide +kernel) ?_
  refine SW.s (fun kk => SP.aload_n (pc' := 22) dX8_init_21 rfl rfl rfl kk) ?_
  refine SW.s (fun kk => SP.iconst (pc' := 23) dX8_init_22 rfl kk) ?_
  refine SW.newZ (pc' := 25) dX8_init_23 rfl rfl rfl (n' := 38) (cs' := 3) (ss' := 19) rfl rfl rfl (by decide) (by decide) ?_
  refine SW.putR (t := 37) (pc' := 28) dX8_init_25 rfl fX8_20 rfl (by decide) rfl (fun q h => by cases h; rfl) (Or.inr ⟨_, rfl⟩) (by decide +kernel) ?_
  refine SW.s (fun kk => SP.aload_n (pc' := 29) dX8_init_28 rfl rfl rfl kk) ?_
  refine SW.s (fun kk => SP.bipush (pc' := 31) dX8_init_29 rfl rfl kk) ?_
  refine SW.newI (pc' := 33) dX8_init_31 rfl rfl rfl (n' := 39) (cs' := 4) (ss' := 31) rfl rfl rfl (by decide) (by decide) ?_
  refine SW.putR (t := 38) (pc' := 36) dX8_init_33 rfl fX8_24 rfl (by decide) rfl (fun q h => by cases h; rfl) (Or.inr ⟨_, rfl⟩) (by decide +kernel) ?_
  refine SW.s (fun kk => SP.aload_n (pc' := 37) dX8_init_36 rfl rfl rfl kk) ?_
  refine SW.s (fun kk => SP.bipush (pc' := 39) dX8_init_37 rfl rfl kk) ?_
  refine SW.newI (pc' := 41) dX8_init_39 rfl rfl rfl (n' := 40) (cs' := 5) (ss' := 43) rfl rfl rfl (by decide) (by decide) ?_
  refine SW.putR (t := 39) (pc' := 44) dX8_init_41 rfl fX8_28 rfl (by decide) rfl (fun q h => by cases h; rfl) (Or.inr ⟨_, rfl⟩) (by decide +kernel) ?_
  refine SW.s (fun kk => SP.aload_n (pc' := 45) dX8_init_44 rfl rfl rfl kk) ?_
  refine SW.s (fun kk => SP.bipush (pc' := 47) dX8_init_45 rfl rfl kk) ?_
  refine SW.newJ (pc' := 49) dX8_init_47 rfl rfl rfl (n' := 41) (cs' := 6) (ss' := 53) rfl rfl rfl (by decide) (by decide) ?_
  refine SW.putR (t := 40) (pc' := 52) dX8_init_49 rfl fX8_31 rfl (by decide) rfl (fun q h => by cases h; rfl) (Or.inr ⟨_, rfl⟩) (by decide +kernel) ?_
  refine SW.s (fun kk => SP.iconst (pc' := 53) dX8_init_52 rfl kk) ?_
  refine SW.s (fun kk => SP.istore_n (LL' := [_, _]) (pc' := 54) dX8_init_53 rfl (by decide) rfl rfl rfl kk) ?_
  refine SW.s (fun kk => SP.iload_n (pc' := 55) dX8_init_54 rfl rfl rfl kk) ?_
  refine SW.s (fun kk => SP.bipush (pc' := 57) dX8_init_55 rfl rfl kk) ?_
  refine SW.s (fun kk => SP.icmp_gt (tgt := 79) (pc' := 60) dX8_init_57 (by decide) rfl (by unfold fp_rng; decide) (by unfold fp_rng; decide) (fun h => absurd h (by decide)) (fun _ => kk)) ?_
  refine SW.s (fun kk => SP.aload_n (pc' := 61) dX8_init_60 rfl rfl rfl kk) ?_
  refine SW.getR (t := 35) (pc' := 64) dX8_init_61 rfl fX8_11 rfl (by decide) (by decide +kernel) (List.mem_cons_of_mem _ (List.mem_cons_of_mem _ (List.mem_cons_of_mem _ (List.mem_cons_of_mem _ (List.mem_cons_of_mem _ List.mem_cons_self))))) ?_
  refine SW.s (fun kk => SP.iload_n (pc' := 65) dX8_init_64 rfl rfl rfl kk) ?_
  refine SW.newO (pc' := 68) dX8_init_65 rfl nX8_9 rfl (n' := 42) (cs' := 7) (ss' := 57) rfl rfl rfl (by decide) (by decide) ?_
  refine SW.s (fun kk => SP.dup (pc' := 69) dX8_init_68 rfl rfl kk) ?_
  refine SW.callI (pc' := 72) dX8_init_69 rfl cX8_35 mX5_init vX5_init rfl rfl (by decide) (n' := 46) (cs' := 11) (ss' := 104) rfl rfl rfl (by decide) (by decide) (Nat.le_of_ble_eq_true rfl) (c_Places (k := 41) rfl (by decide +kernel) rfl (by decide +kernel) rfl (by decide +kernel) rfl rfl) ?_
  refine SW.aastP (i := 0) (t := 41) (pc' := 73) dX8_init_72 rfl rfl (by decide) rfl (by decide) rfl (by decide) (by decide +kernel) ?_
  refine SW.s (fun kk => SP.iinc (LL' := [_, some (iV 1)]) (pc' := 76) dX8_init_73 rfl (by decide) rfl rfl rfl kk) ?_
  refine SW.s (fun kk => SP.goto (pc' := 54) dX8_init_76 (by decide) kk) ?_
  refine SW.s (fun kk => SP.iload_n (pc' := 55) dX8_init_54 rfl rfl rfl kk) ?_
  refine SW.s (fun kk => SP.bipush (pc' := 57) dX8_init_55 rfl rfl kk) ?_
  refine SW.s (fun kk => SP.icmp_gt (tgt := 79) (pc' := 60) dX8_init_57 (by decide) rfl (by unfold fp_rng; decide) (by unfold fp_rng; decide) (fun h => absurd h (by decide)) (fun _ => kk)) ?_
  refine SW.s (fun kk => SP.aload_n (pc' := 61) dX8_init_60 rfl rfl rfl kk) ?_
  refine SW.getR (t := 35) (pc' := 64) dX8_init_61 rfl fX8_11 rfl (by decide) (by decide +kernel) (List.mem_cons_of_mem _ (wPlaces_mem (List.mem_cons_of_mem _ (List.mem_cons_of_mem _ (List.mem_cons_of_mem _ (List.mem_cons_of_mem _ (List.mem_cons_of_mem _ List.mem_cons_self))))))) ?_
  refine SW.s (fun kk => SP.iload_n (pc' := 65) dX8_init_64 rfl rfl rfl kk) ?_
  refine SW.newO (pc' := 68) dX8_init_65 rfl nX8_9 rfl (n' := 47) (cs' := 12) (ss' := 108) rfl rfl rfl (by decide) (by decide) ?_
  refine SW.s (fun kk => SP.dup (pc' := 69) dX8_init_68 rfl rfl kk) ?_
  refine SW.callI (pc' := 72) dX8_init_69 rfl cX8_35 mX5_init vX5_init rfl rfl (by decide) (n' := 51) (cs' := 16) (ss' := 155) rfl rfl rfl (by decide) (by decide) (Nat.le_of_ble_eq_true rfl) (c_Places (k := 46) rfl (by decide +kernel) rfl (by decide +kernel) rfl (by decide +kernel) rfl rfl) ?_
  refine SW.aastP (i := 1) (t := 46) (pc' := 73) dX8_init_72 rfl rfl (by decide) rfl (by decide) rfl (by decide) (by decide +kernel) ?_
  refine SW.s (fun kk => SP.iinc (LL' := [_, some (iV 2)]) (pc' := 76) dX8_init_73 rfl (by decide) rfl rfl rfl kk) ?_
  refine SW.s (fun kk => SP.goto (pc' := 54) dX8_init_76 (by decide) kk) ?_
  refine SW.s (fun kk => SP.iload_n (pc' := 55) dX8_init_54 rfl rfl rfl kk) ?_
  refine SW.s (fun kk => SP.bipush (pc' := 57) dX8_init_55 rfl rfl kk) ?_
  refine SW.s (fun kk => SP.icmp_gt (tgt := 79) (pc' := 60) dX8_init_57 (by decide) rfl (by unfold fp_rng; decide) (by unfold fp_rng; decide) (fun h => absurd h (by decide)) (fun _ => kk)) ?_
  refine SW.s (fun kk => SP.aload_n (pc' := 61) dX8_init_60 rfl rfl rfl kk) ?_
  refine SW.getR (t := 35) (pc' := 64) dX8_init_61 rfl fX8_11 rfl (by decide) (by decide +kernel) (List.mem_cons_of_mem _ (wPlaces_mem (List.mem_cons_of_mem _ (wPlaces_mem (List.mem_cons_of_mem _ (List.mem_cons_of_mem _ (List.mem_cons_of_mem _ (List.mem_cons_of_mem _ (List.mem_cons_of_mem _ List.mem_cons_self))))))))) ?_
  refine SW.s (fun kk => SP.iload_n (pc' := 65) dX8_init_64 rfl rfl rfl kk) ?_
  refine SW.newO (pc' := 68) dX8_init_65 rfl nX8_9 rfl (n' := 52) (cs' := 17) (ss' := 159) rfl rfl rfl (by decide) (by decide) ?_
  refine SW.s (fun kk => SP.dup (pc' := 69) dX8_init_68 rfl rfl kk) ?_
  refine SW.callI (pc' := 72) dX8_init_69 rfl cX8_35 mX5_init vX5_init rfl rfl (by decide) (n' := 56) (cs' := 21) (ss' := 206) rfl rfl rfl (by decide) (by decide) (Nat.le_of_ble_eq_true rfl) (c_Places (k := 51) rfl (by decide +kernel) rfl (by decide +kernel) rfl (by decide +kernel) rfl rfl) ?_
  refine SW.aastP (i := 2) (t := 51) (pc' := 73) dX8_init_72 rfl rfl (by decide) rfl (by decide) rfl (by decide) (by decide +kernel) ?_
  refine SW.s (fun kk => SP.iinc (LL' := [_, some (iV 3)]) (pc' := 76) dX8_init_73 rfl (by decide) rfl rfl rfl kk) ?_
  refine SW.s (fun kk => SP.goto (pc' := 54) dX8_init_76 (by decide) kk) ?_
  refine SW.s (fun kk => SP.iload_n (pc' := 55) dX8_init_54 rfl rfl rfl kk) ?_
  refine SW.s (fun kk => SP.bipush (pc' := 57) dX8_init_55 rfl rfl kk) ?_
  refine SW.s (fun kk => SP.icmp_gt (tgt := 79) (pc' := 60) dX8_init_57 (by decide) rfl (by unfold fp_rng; decide) (by unfold fp_rng; decide) (fun h => absurd h (by decide)) (fun _ => kk)) ?_
  refine SW.s (fun kk => SP.aload_n (pc' := 61) dX8_init_60 rfl rfl rfl kk) ?_
  refine SW.getR (t := 35) (pc' := 64) dX8_init_61 rfl fX8_11 rfl (by decide) (by decide +kernel) (List.mem_cons_of_mem _ (wPlaces_mem (List.mem_cons_of_mem _ (wPlaces_mem (List.mem_cons_of_mem _ (wPlaces_mem (List.mem_cons_of_mem _ (List.mem_cons_of_mem _ (List.mem_cons_of_mem _ (List.mem_cons_of_mem _ (List.mem_cons_of_mem _ List.mem_cons_self))))))))))) ?_
  refine SW.s (fun kk => SP.iload_n (pc' := 65) dX8_init_64 rfl rfl rfl kk) ?_
  refine SW.newO (pc' := 68) dX8_init_65 rfl nX8_9 rfl (n' := 57) (cs' := 22) (ss' := 210) rfl rfl rfl (by decide) (by decide) ?_
  refine SW.s (fun kk => SP.dup (pc' := 69) dX8_init_68 rfl rfl kk) ?_
  refine SW.callI (pc' := 72) dX8_init_69 rfl cX8_35 mX5_init vX5_init rfl rfl (by decide) (n' := 61) (cs' := 26) (ss' := 257) rfl rfl rfl (by decide) (by decide) (Nat.le_of_ble_eq_true rfl) (c_Places (k := 56) rfl (by decide +kernel) rfl (by decide +kernel) rfl (by decide +kernel) rfl rfl) ?_
  refine SW.aastP (i := 3) (t := 56) (pc' := 73) dX8_init_72 rfl rfl (by decide) rfl (by decide) rfl (by decide) (by decide +kernel) ?_
  refine SW.s (fun kk => SP.iinc (LL' := [_, some (iV 4)]) (pc' := 76) dX8_init_73 rfl (by decide) rfl rfl rfl kk) ?_
  refine SW.s (fun kk => SP.goto (pc' := 54) dX8_init_76 (by decide) kk) ?_
  refine SW.s (fun kk => SP.iload_n (pc' := 55) dX8_init_54 rfl rfl rfl kk) ?_
  refine SW.s (fun kk => SP.bipush (pc' := 57) dX8_init_55 rfl rfl kk) ?_
  refine SW.s (fun kk => SP.icmp_gt (tgt := 79) (pc' := 60) dX8_init_57 (by decide) rfl (by unfold fp_rng; decide) (by unfold fp_rng; decide) (fun h => absurd h (by decide)) (fun _ => kk)) ?_
  refine SW.s (fun kk => SP.aload_n (pc' := 61) dX8_init_60 rfl rfl rfl kk) ?_
  refine SW.getR (t := 35) (pc' := 64) dX8_init_61 rfl fX8_11 rfl (by decide) (by decide +kernel) (List.mem_cons_of_mem _ (wPlaces_mem (List.mem_cons_of_mem _ (wPlaces_mem (List.mem_cons_of_mem _ (wPlaces_mem (List.mem_cons_of_mem _ (wPlaces_mem (List.mem_cons_of_mem _ (List.mem_cons_of_mem _ (List.mem_cons_of_mem _ (List.mem_cons_of_mem _ (List.mem_cons_of_mem _ List.mem_cons_self))))))))))))) ?_
  refine SW.s (fun kk => SP.iload_n (pc' := 65) dX8_init_64 rfl rfl rfl kk) ?_
  refine SW.newO (pc' := 68) dX8_init_65 rfl nX8_9 rfl (n' := 62) (cs' := 27) (ss' := 261) rfl rfl rfl (by decide) (by decide) ?_
  refine SW.s (fun kk => SP.dup (pc' := 69) dX8_init_68 rfl rfl kk) ?_
  refine SW.callI (pc' := 72) dX8_init_69 rfl cX8_35 mX5_init vX5_init rfl rfl (by decide) (n' := 66) (cs' := 31) (ss' := 308) rfl rfl rfl (by decide) (by decide) (Nat.le_of_ble_eq_true rfl) (c_Places (k := 61) rfl (by decide +kernel) rfl (by decide +kernel) rfl (by decide +kernel) rfl rfl) ?_
  refine SW.aastP (i := 4) (t := 61) (pc' := 73) dX8_init_72 rfl rfl (by decide) rfl (by decide) rfl (by decide) (by decide +kernel) ?_
  refine SW.s (fun kk => SP.iinc (LL' := [_, some (iV 5)]) (pc' := 76) dX8_init_73 rfl (by decide) rfl rfl rfl kk) ?_
  refine SW.s (fun kk => SP.goto (pc' := 54) dX8_init_76 (by decide) kk) ?_
  refine SW.s (fun kk => SP.iload_n (pc' := 55) dX8_init_54 rfl rfl rfl kk) ?_
  refine SW.s (fun kk => SP.bipush (pc' := 57) dX8_init_55 rfl rfl kk) ?_
  refine SW.s (fun kk => SP.icmp_gt (tgt := 79) (pc' := 60) dX8_init_57 (by decide) rfl (by unfold fp_rng; decide) (by unfold fp_rng; decide) (fun h => absurd h (by decide)) (fun _ => kk)) ?_
  refine SW.s (fun kk => SP.aload_n (pc' := 61) dX8_init_60 rfl rfl rfl kk) ?_
  refine SW.getR (t := 35) (pc' := 64) dX8_init_61 rfl fX8_11 rfl (by decide) (by decide +kernel) (List.mem_cons_of_mem _ (wPlaces_mem (List.mem_cons_of_mem _ (wPlaces_mem (List.mem_cons_of_mem _ (wPlaces_mem (List.mem_cons_of_mem _ (wPlaces_mem (List.mem_cons_of_mem _ (wPlaces_mem (List.mem_cons_of_mem _ (List.mem_cons_of_mem _ (List.mem_cons_of_mem _ (List.mem_cons_of_mem _ (List.mem_cons_of_mem _ List.mem_cons_self))))))))))))))) ?_
  refine SW.s (fun kk => SP.iload_n (pc' := 65) dX8_init_64 rfl rfl rfl kk) ?_
  refine SW.newO (pc' := 68) dX8_init_65 rfl nX8_9 rfl (n' := 67) (cs' := 32) (ss' := 312) rfl rfl rfl (by decide) (by decide) ?_
  refine SW.s (fun kk => SP.dup (pc' := 69) dX8_init_68 rfl rfl kk) ?_
  refine SW.callI (pc' := 72) dX8_init_69 rfl cX8_35 mX5_init vX5_init rfl rfl (by decide) (n' := 71) (cs' := 36) (ss' := 359) rfl rfl rfl (by decide) (by decide) (Nat.le_of_ble_eq_true rfl) (c_Places (k := 66) rfl (by decide +kernel) rfl (by decide +kernel) rfl (by decide +kernel) rfl rfl) ?_
  refine SW.aastP (i := 5) (t := 66) (pc' := 73) dX8_init_72 rfl rfl (by decide) rfl (by decide) rfl (by decide) (by decide +kernel) ?_
  refine SW.s (fun kk => SP.iinc (LL' := [_, some (iV 6)]) (pc' := 76) dX8_init_73 rfl (by decide) rfl rfl rfl kk) ?_
  refine SW.s (fun kk => SP.goto (pc' := 54) dX8_init_76 (by decide) kk) ?_
  refine SW.s (fun kk => SP.iload_n (pc' := 55) dX8_init_54 rfl rfl rfl kk) ?_
  refine SW.s (fun kk => SP.bipush (pc' := 57) dX8_init_55 rfl rfl kk) ?_
  refine SW.s (fun kk => SP.icmp_gt (tgt := 79) (pc' := 60) dX8_init_57 (by decide) rfl (by unfold fp_rng; decide) (by unfold fp_rng; decide) (fun h => absurd h (by decide)) (fun _ => kk)) ?_
  refine SW.s (fun kk => SP.aload_n (pc' := 61) dX8_init_60 rfl rfl rfl kk) ?_
  refine SW.getR (t := 35) (pc' := 64) dX8_init_61 rfl fX8_11 rfl (by decide) (by decide +kernel) (List.mem_cons_of_mem _ (wPlaces_mem (List.mem_cons_of_mem _ (wPlaces_mem (List.mem_cons_of_mem _ (wPlaces_mem (List.mem_cons_of_mem _ (wPlaces_mem (List.mem_cons_of_mem _ (wPlaces_mem (List.mem_cons_of_mem _ (wPlaces_mem (List.mem_cons_of_mem _ (List.mem_cons_of_mem _ (List.mem_cons_of_mem _ (List.mem_cons_of_mem _ (List.mem_cons_of_mem _ List.mem_cons_self))))))))))))))))) ?_
  refine SW.s (fun kk => SP.iload_n (pc' := 65) dX8_init_64 rfl rfl rfl kk) ?_
  refine SW.newO (pc' := 68) dX8_init_65 rfl nX8_9 rfl (n' := 72) (cs' := 37) (ss' := 363) rfl rfl rfl (by decide) (by decide) ?_
  refine SW.s (fun kk => SP.dup (pc' := 69) dX8_init_68 rfl rfl kk) ?_
  refine SW.callI (pc' := 72) dX8_init_69 rfl cX8_35 mX5_init vX5_init rfl rfl (by decide) (n' := 76) (cs' := 41) (ss' := 410) rfl rfl rfl (by decide) (by decide) (Nat.le_of_ble_eq_true rfl) (c_Places (k := 71) rfl (by decide +kernel) rfl (by decide +kernel) rfl (by decide +kernel) rfl rfl) ?_
  refine SW.aastP (i := 6) (t := 71) (pc' := 73) dX8_init_72 rfl rfl (by decide) rfl (by decide) rfl (by decide) (by decide +kernel) ?_
  refine SW.s (fun kk => SP.iinc (LL' := [_, some (iV 7)]) (pc' := 76) dX8_init_73 rfl (by decide) rfl rfl rfl kk) ?_
  refine SW.s (fun kk => SP.goto (pc' := 54) dX8_init_76 (by decide) kk) ?_
  refine SW.s (fun kk => SP.iload_n (pc' := 55) dX8_init_54 rfl rfl rfl kk) ?_
  refine SW.s (fun kk => SP.bipush (pc' := 57) dX8_init_55 rfl rfl kk) ?_
  refine SW.s (fun kk => SP.icmp_gt (tgt := 79) (pc' := 60) dX8_init_57 (by decide) rfl (by unfold fp_rng; decide) (by unfold fp_rng; decide) (fun h => absurd h (by decide)) (fun _ => kk)) ?_
  refine SW.s (fun kk => SP.aload_n (pc' := 61) dX8_init_60 rfl rfl rfl kk) ?_
  refine SW.getR (t := 35) (pc' := 64) dX8_init_61 rfl fX8_11 rfl (by decide) (by decide +kernel) (List.mem_cons_of_mem _ (wPlaces_mem (List.mem_cons_of_mem _ (wPlaces_mem (List.mem_cons_of_mem _ (wPlaces_mem (List.mem_cons_of_mem _ (wPlaces_mem (List.mem_cons_of_mem _ (wPlaces_mem (List.mem_cons_of_mem _ (wPlaces_mem (List.mem_cons_of_mem _ (wPlaces_mem (List.mem_cons_of_mem _ (List.mem_cons_of_mem _ (List.mem_cons_of_mem _ (List.mem_cons_of_mem _ (List.mem_cons_of_mem _ List.mem_cons_self))))))))))))))))))) ?_
  refine SW.s (fun kk => SP.iload_n (pc' := 65) dX8_init_64 rfl rfl rfl kk) ?_
  refine SW.newO (pc' := 68) dX8_init_65 rfl nX8_9 rfl (n' := 77) (cs' := 42) (ss' := 414) rfl rfl rfl (by decide) (by decide) ?_
  refine SW.s (fun kk => SP.dup (pc' := 69) dX8_init_68 rfl rfl kk) ?_
  refine SW.callI (pc' := 72) dX8_init_69 rfl cX8_35 mX5_init vX5_init rfl rfl (by decide) (n' := 81) (cs' := 46) (ss' := 461) rfl rfl rfl (by decide) (by decide) (Nat.le_of_ble_eq_true rfl) (c_Places (k := 76) rfl (by decide +kernel) rfl (by decide +kernel) rfl (by decide +kernel) rfl rfl) ?_
  refine SW.aastP (i := 7) (t := 76) (pc' := 73) dX8_init_72 rfl rfl (by decide) rfl (by decide) rfl (by decide) (by decide +kernel) ?_
  refine SW.s (fun kk => SP.iinc (LL' := [_, some (iV 8)]) (pc' := 76) dX8_init_73 rfl (by decide) rfl rfl rfl kk) ?_
  refine SW.s (fun kk => SP.goto (pc' := 54) dX8_init_76 (by decide) kk) ?_
  refine SW.s (fun kk => SP.iload_n (pc' := 55) dX8_init_54 rfl rfl rfl kk) ?_
  refine SW.s (fun kk => SP.bipush (pc' := 57) dX8_init_55 rfl rfl kk) ?_
  refine SW.s (fun kk => SP.icmp_gt (tgt := 79) (pc' := 60) dX8_init_57 (by decide) rfl (by unfold fp_rng; decide) (by unfold fp_rng; decide) (fun h => absurd h (by decide)) (fun _ => kk)) ?_
  refine SW.s (fun kk => SP.aload_n (pc' := 61) dX8_init_60 rfl rfl rfl kk) ?_
  refine SW.getR (t := 35) (pc' := 64) dX8_init_61 rfl fX8_11 rfl (by decide) (by decide +kernel) (List.mem_cons_of_mem _ (wPlaces_mem (List.mem_cons_of_mem _ (wPlaces_mem (List.mem_cons_of_mem _ (wPlaces_mem (List.mem_cons_of_mem _ (wPlaces_mem (List.mem_cons_of_mem _ (wPlaces_mem (List.mem_cons_of_mem _ (wPlaces_mem (List.mem_cons_of_mem _ (wPlaces_mem (List.mem_cons_of_mem _ (wPlaces_mem (List.mem_cons_of_mem _ (List.mem_cons_of_mem _ (List.mem_cons_of_mem _ (List.mem_cons_of_mem _ (List.mem_cons_of_mem _ List.mem_cons_self))))))))))))))))))))) ?_
  refine SW.s (fun kk => SP.iload_n (pc' := 65) dX8_init_64 rfl rfl rfl kk) ?_
  refine SW.newO (pc' := 68) dX8_init_65 rfl nX8_9 rfl (n' := 82) (cs' := 47) (ss' := 465) rfl rfl rfl (by decide) (by decide) ?_
  refine SW.s (fun kk => SP.dup (pc' := 69) dX8_init_68 rfl rfl kk) ?_
  refine SW.callI (pc' := 72) dX8_init_69 rfl cX8_35 mX5_init vX5_init rfl rfl (by decide) (n' := 86) (cs' := 51) (ss' := 512) rfl rfl rfl (by decide) (by decide) (Nat.le_of_ble_eq_true rfl) (c_Places (k := 81) rfl (by decide +kernel) rfl (by decide +kernel) rfl (by decide +kernel) rfl rfl) ?_
  refine SW.aastP (i := 8) (t := 81) (pc' := 73) dX8_init_72 rfl rfl (by decide) rfl (by decide) rfl (by decide) (by decide +kernel) ?_
  refine SW.s (fun kk => SP.iinc (LL' := [_, some (iV 9)]) (pc' := 76) dX8_init_73 rfl (by decide) rfl rfl rfl kk) ?_
  refine SW.s (fun kk => SP.goto (pc' := 54) dX8_init_76 (by decide) kk) ?_
  refine SW.s (fun kk => SP.iload_n (pc' := 55) dX8_init_54 rfl rfl rfl kk) ?_
  refine SW.s (fun kk => SP.bipush (pc' := 57) dX8_init_55 rfl rfl kk) ?_
  refine SW.s (fun kk => SP.icmp_gt (tgt := 79) (pc' := 60) dX8_init_57 (by decide) rfl (by unfold fp_rng; decide) (by unfold fp_rng; decide) (fun h => absurd h (by decide)) (fun _ => kk)) ?_
  refine SW.s (fun kk => SP.aload_n (pc' := 61) dX8_init_60 rfl rfl rfl kk) ?_
  refine SW.getR (t := 35) (pc' := 64) dX8_init_61 rfl fX8_11 rfl (by decide) (by decide +kernel) (List.mem_cons_of_mem _ (wPlaces_mem (List.mem_cons_of_mem _ (wPlaces_mem (List.mem_cons_of_mem _ (wPlaces_mem (List.mem_cons_of_mem _ (wPlaces_mem (List.mem_cons_of_mem _ (wPlaces_mem (List.mem_cons_of_mem _ (wPlaces_mem (List.mem_cons_of_mem _ (wPlaces_mem (List.mem_cons_of_mem _ (wPlaces_mem (List.mem_cons_of_mem _ (wPlaces_mem (List.mem_cons_of_mem _ (List.mem_cons_of_mem _ (List.mem_cons_of_mem _ (List.mem_cons_of_mem _ (List.mem_cons_of_mem _ List.mem_cons_self))))))))))))))))))))))) ?_
  refine SW.s (fun kk => SP.iload_n (pc' := 65) dX8_init_64 rfl rfl rfl kk) ?_
  refine SW.newO (pc' := 68) dX8_init_65 rfl nX8_9 rfl (n' := 87) (cs' := 52) (ss' := 516) rfl rfl rfl (by decide) (by decide) ?_
  refine SW.s (fun kk => SP.dup (pc' := 69) dX8_init_68 rfl rfl kk) ?_
  refine SW.callI (pc' := 72) dX8_init_69 rfl cX8_35 mX5_init vX5_init rfl rfl (by decide) (n' := 91) (cs' := 56) (ss' := 563) rfl rfl rfl (by decide) (by decide) (Nat.le_of_ble_eq_true rfl) (c_Places (k := 86) rfl (by decide +kernel) rfl (by decide +kernel) rfl (by decide +kernel) rfl rfl) ?_
  refine SW.aastP (i := 9) (t := 86) (pc' := 73) dX8_init_72 rfl rfl (by decide) rfl (by decide) rfl (by decide) (by decide +kernel) ?_
  refine SW.s (fun kk => SP.iinc (LL' := [_, some (iV 10)]) (pc' := 76) dX8_init_73 rfl (by decide) rfl rfl rfl kk) ?_
  refine SW.s (fun kk => SP.goto (pc' := 54) dX8_init_76 (by decide) kk) ?_
  refine SW.s (fun kk => SP.iload_n (pc' := 55) dX8_init_54 rfl rfl rfl kk) ?_
  refine SW.s (fun kk => SP.bipush (pc' := 57) dX8_init_55 rfl rfl kk) ?_
  refine SW.s (fun kk => SP.icmp_gt (tgt := 79) (pc' := 60) dX8_init_57 (by decide) rfl (by unfold fp_rng; decide) (by unfold fp_rng; decide) (fun h => absurd h (by decide)) (fun _ => kk)) ?_
  refine SW.s (fun kk => SP.aload_n (pc' := 61) dX8_init_60 rfl rfl rfl kk) ?_
  refine SW.getR (t := 35) (pc' := 64) dX8_init_61 rfl fX8_11 rfl (by decide) (by decide +kernel) (List.mem_cons_of_mem _ (wPlaces_mem (List.mem_cons_of_mem _ (wPlaces_mem (List.mem_cons_of_mem _ (wPlaces_mem (List.mem_cons_of_mem _ (wPlaces_mem (List.mem_cons_of_mem _ (wPlaces_mem (List.mem_cons_of_mem _ (wPlaces_mem (List.mem_cons_of_mem _ (wPlaces_mem (List.mem_cons_of_mem _ (wPlaces_mem (List.mem_cons_of_mem _ (wPlaces_mem (List.mem_cons_of_mem _ (wPlaces_mem (List.mem_cons_of_mem _ (List.mem_cons_of_mem _ (List.mem_cons_of_mem _ (List.mem_cons_of_mem _ (List.mem_cons_of_mem _ List.mem_cons_self))))))))))))))))))))))))) ?_
  refine SW.s (fun kk => SP.iload_n (pc' := 65) dX8_init_64 rfl rfl rfl kk) ?_
  refine SW.newO (pc' := 68) dX8_init_65 rfl nX8_9 rfl (n' := 92) (cs' := 57) (ss' := 567) rfl rfl rfl (by decide) (by decide) ?_
  refine SW.s (fun kk => SP.dup (pc' := 69) dX8_init_68 rfl rfl kk) ?_
  refine SW.callI (pc' := 72) dX8_init_69 rfl cX8_35 mX5_init vX5_init rfl rfl (by decide) (n' := 96) (cs' := 61) (ss' := 614) rfl rfl rfl (by decide) (by decide) (Nat.le_of_ble_eq_true rfl) (c_Places (k := 91) rfl (by decide +kernel) rfl (by decide +kernel) rfl (by decide +kernel) rfl rfl) ?_
  refine SW.aastP (i := 10) (t := 91) (pc' := 73) dX8_init_72 rfl rfl (by decide) rfl (by decide) rfl (by decide) (by decide +kernel) ?_
  refine SW.s (fun kk => SP.iinc (LL' := [_, some (iV 11)]) (pc' := 76) dX8_init_73 rfl (by decide) rfl rfl rfl kk) ?_
  refine SW.s (fun kk => SP.goto (pc' := 54) dX8_init_76 (by decide) kk) ?_
  refine SW.s (fun kk => SP.iload_n (pc' := 55) dX8_init_54 rfl rfl rfl kk) ?_
  refine SW.s (fun kk => SP.bipush (pc' := 57) dX8_init_55 rfl rfl kk) ?_
  refine SW.s (fun kk => SP.icmp_gt (tgt := 79) (pc' := 60) dX8_init_57 (by decide) rfl (by unfold fp_rng; decide) (by unfold fp_rng; decide) (fun h => absurd h (by decide)) (fun _ => kk)) ?_
  refine SW.s (fun kk => SP.aload_n (pc' := 61) dX8_init_60 rfl rfl rfl kk) ?_
  refine SW.getR (t := 35) (pc' := 64) dX8_init_61 rfl fX8_11 rfl (by decide) (by decide +kernel) (List.mem_cons_of_mem _ (wPlaces_mem (List.mem_cons_of_mem _ (wPlaces_mem (List.mem_cons_of_mem _ (wPlaces_mem (List.mem_cons_of_mem _ (wPlaces_mem (List.mem_cons_of_mem _ (wPlaces_mem (List.mem_cons_of_mem _ (wPlaces_mem (List.mem_cons_of_mem _ (wPlaces_mem (List.mem_cons_of_mem _ (wPlaces_mem (List.mem_cons_of_mem _ (wPlaces_mem (List.mem_cons_of_mem _ (wPlaces_mem (List.mem_cons_of_mem _ (wPlaces_mem (List.mem_cons_of_mem _ (List.mem_cons_of_mem _ (List.mem_cons_of_mem _ (List.mem_cons_of_mem _ (List.mem_cons_of_mem _ List.mem_cons_self))))))))))))))))))))))))))) ?_
  refine SW.s (fun kk => SP.iload_n (pc' := 65) dX8_init_64 rfl rfl rfl kk) ?_
  refine SW.newO (pc' := 68) dX8_init_65 rfl nX8_9 rfl (n' := 97) (cs' := 62) (ss' := 618) rfl rfl rfl (by decide) (by decide) ?_
  refine SW.s (fun kk => SP.dup (pc' := 69) dX8_init_68 rfl rfl kk) ?_
  refine SW.callI (pc' := 72) dX8_init_69 rfl cX8_35 mX5_init vX5_init rfl rfl (by decide) (n' := 101) (cs' := 66) (ss' := 665) rfl rfl rfl (by decide) (by decide) (Nat.le_of_ble_eq_true rfl) (c_Places (k := 96) rfl (by decide +kernel) rfl (by decide +kernel) rfl (by decide +kernel) rfl rfl) ?_
  refine SW.aastP (i := 11) (t := 96) (pc' := 73) dX8_init_72 rfl rfl (by decide) rfl (by decide) rfl (by decide) (by decide +kernel) ?_
  refine SW.s (fun kk => SP.iinc (LL' := [_, some (iV 12)]) (pc' := 76) dX8_init_73 rfl (by decide) rfl rfl rfl kk) ?_
  refine SW.s (fun kk => SP.goto (pc' := 54) dX8_init_76 (by decide) kk) ?_
  refine SW.s (fun kk => SP.iload_n (pc' := 55) dX8_init_54 rfl rfl rfl kk) ?_
  refine SW.s (fun kk => SP.bipush (pc' := 57) dX8_init_55 rfl rfl kk) ?_
  refine SW.s (fun kk => SP.icmp_gt (tgt := 79) (pc' := 60) dX8_init_57 (by decide) rfl (by unfold fp_rng; decide) (by unfold fp_rng; decide) (fun h => absurd h (by decide)) (fun _ => kk)) ?_
  refine SW.s (fun kk => SP.aload_n (pc' := 61) dX8_init_60 rfl rfl rfl kk) ?_
  refine SW.getR (t := 35) (pc' := 64) dX8_init_61 rfl fX8_11 rfl (by decide) (by decide +kernel) (List.mem_cons_of_mem _ (wPlaces_mem (List.mem_cons_of_mem _ (wPlaces_mem (List.mem_cons_of_mem _ (wPlaces_mem (List.mem_cons_of_mem _ (wPlaces_mem (List.mem_cons_of_mem _ (wPlaces_mem (List.mem_cons_of_mem _ (wPlaces_mem (List.mem_cons_of_mem _ (wPlaces_mem (List.mem_cons_of_mem _ (wPlaces_mem (List.mem_cons_of_mem _ (wPlaces_mem (List.mem_cons_of_mem _ (wPlaces_mem (List.mem_cons_of_mem _ (wPlaces_mem (List.mem_cons_of_mem _ (wPlaces_mem (List.mem_cons_of_mem _ (List.mem_cons_of_mem _ (List.mem_cons_of_mem _ (List.mem_cons_of_mem _ (List.mem_cons_of_mem _ List.mem_cons_self))))))))))))))))))))))))))))) ?_
  refine SW.s (fun kk => SP.iload_n (pc' := 65) dX8_init_64 rfl rfl rfl kk) ?_
  refine SW.newO (pc' := 68) dX8_init_65 rfl nX8_9 rfl (n' := 102) (cs' := 67) (ss' := 669) rfl rfl rfl (by decide) (by decide) ?_
  refine SW.s (fun kk => SP.dup (pc' := 69) dX8_init_68 rfl rfl kk) ?_
  refine SW.callI (pc' := 72) dX8_init_69 rfl cX8_35 mX5_init vX5_init rfl rfl (by decide) (n' := 106) (cs' := 71) (ss' := 716) rfl rfl rfl (by decide) (by decide) (Nat.le_of_ble_eq_true rfl) (c_Places (k := 101) rfl (by decide +kernel) rfl (by decide +kernel) rfl (by decide +kernel) rfl rfl) ?_
  refine SW.aastP (i := 12) (t := 101) (pc' := 73) dX8_init_72 rfl rfl (by decide) rfl (by decide) rfl (by decide) (by decide +kernel) ?_
  refine SW.s (fun kk => SP.iinc (LL' := [_, some (iV 13)]) (pc' := 76) dX8_init_73 rfl (by decide) rfl rfl rfl kk) ?_
  refine SW.s (fun kk => SP.goto (pc' := 54) dX8_init_76 (by decide) kk) ?_
  refine SW.s (fun kk => SP.iload_n (pc' := 55) dX8_init_54 rfl rfl rfl kk) ?_
  refine SW.s (fun kk => SP.bipush (pc' := 57) dX8_init_55 rfl rfl kk) ?_
  refine SW.s (fun kk => SP.icmp_gt (tgt := 79) (pc' := 60) dX8_init_57 (by decide) rfl (by unfold fp_rng; decide) (by unfold fp_rng; decide) (fun _ => kk) (fun h => absurd (by decide) h)) ?_
  refine SW.s (fun kk => SP.iconst (pc' := 80) dX8_init_79 rfl kk) ?_
  refine SW.s (fun kk => SP.istore_n (LL' := [_, _]) (pc' := 81) dX8_init_80 rfl (by decide) rfl rfl rfl kk) ?_
  refine SW.s (fun kk => SP.iload_n (pc' := 82) dX8_init_81 rfl rfl rfl kk) ?_
  refine SW.s (fun kk => SP.iconst (pc' := 83) dX8_init_82 rfl kk) ?_
  refine SW.s (fun kk => SP.icmp_ge (tgt := 105) (pc' := 86) dX8_init_83 (by decide) rfl (by unfold fp_rng; decide) (by unfold fp_rng; decide) (fun h => absurd h (by decide)) (fun _ => kk)) ?_
  refine SW.s (fun kk => SP.aload_n (pc' := 87) dX8_init_86 rfl rfl rfl kk) ?_
  refine SW.getR (t := 36) (pc' := 90) dX8_init_87 rfl fX8_17 rfl (by decide) (by decide +kernel) (List.mem_cons_of_mem _ (wPlaces_mem (List.mem_cons_of_mem _ (wPlaces_mem (List.mem_cons_of_mem _ (wPlaces_mem (List.mem_cons_of_mem _ (wPlaces_mem (List.mem_cons_of_mem _ (wPlaces_mem (List.mem_cons_of_mem _ (wPlaces_mem (List.mem_cons_of_mem _ (wPlaces_mem (List.mem_cons_of_mem _ (wPlaces_mem (List.mem_cons_of_mem _ (wPlaces_mem (List.mem_cons_of_mem _ (wPlaces_mem (List.mem_cons_of_mem _ (wPlaces_mem (List.mem_cons_of_mem _ (wPlaces_mem (List.mem_cons_of_mem _ (wPlaces_mem (List.mem_cons_of_mem _ (List.mem_cons_of_mem _ (List.mem_cons_of_mem _ (List.mem_cons_of_mem _ List.mem_cons_self)))))))))))))))))))))))))))))) ?_
  refine SW.s (fun kk => SP.iload_n (pc' := 91) dX8_init_90 rfl rfl rfl kk) ?_
  refine SW.newO (pc' := 94) dX8_init_91 rfl nX8_9 rfl (n' := 107) (cs' := 72) (ss' := 720) rfl rfl rfl (by decide) (by decide) ?_
  refine SW.s (fun kk => SP.dup (pc' := 95) dX8_init_94 rfl rfl kk) ?_
  refine SW.callI (pc' := 98) dX8_init_95 rfl cX8_35 mX5_init vX5_init rfl rfl (by decide) (n' := 111) (cs' := 76) (ss' := 767) rfl rfl rfl (by decide) (by decide) (Nat.le_of_ble_eq_true rfl) (c_Places (k := 106) rfl (by decide +kernel) rfl (by decide +kernel) rfl (by decide +kernel) rfl rfl) ?_
  refine SW.aastP (i := 0) (t := 106) (pc' := 99) dX8_init_98 rfl rfl (by decide) rfl (by decide) rfl (by decide) (by decide +kernel) ?_
  refine SW.s (fun kk => SP.iinc (LL' := [_, some (iV 1)]) (pc' := 102) dX8_init_99 rfl (by decide) rfl rfl rfl kk) ?_
  refine SW.s (fun kk => SP.goto (pc' := 81) dX8_init_102 (by decide) kk) ?_
  refine SW.s (fun kk => SP.iload_n (pc' := 82) dX8_init_81 rfl rfl rfl kk) ?_
  refine SW.s (fun kk => SP.iconst (pc' := 83) dX8_init_82 rfl kk) ?_
  refine SW.s (fun kk => SP.icmp_ge (tgt := 105) (pc' := 86) dX8_init_83 (by decide) rfl (by unfold fp_rng; decide) (by unfold fp_rng; decide) (fun h => absurd h (by decide)) (fun _ => kk)) ?_
  refine SW.s (fun kk => SP.aload_n (pc' := 87) dX8_init_86 rfl rfl rfl kk) ?_
  refine SW.getR (t := 36) (pc' := 90) dX8_init_87 rfl fX8_17 rfl (by decide) (by decide +kernel) (List.mem_cons_of_mem _ (wPlaces_mem (List.mem_cons_of_mem _ (wPlaces_mem (List.mem_cons_of_mem _ (wPlaces_mem (List.mem_cons_of_mem _ (wPlaces_mem (List.mem_cons_of_mem _ (wPlaces_mem (List.mem_cons_of_mem _ (wPlaces_mem (List.mem_cons_of_mem _ (wPlaces_mem (List.mem_cons_of_mem _ (wPlaces_mem (List.mem_cons_of_mem _ (wPlaces_mem (List.mem_cons_of_mem _ (wPlaces_mem (List.mem_cons_of_mem _ (wPlaces_mem (List.mem_cons_of_mem _ (wPlaces_mem (List.mem_cons_of_mem _ (wPlaces_mem (List.mem_cons_of_mem _ (wPlaces_mem (List.mem_cons_of_mem _ (List.mem_cons_of_mem _ (List.mem_cons_of_mem _ (List.mem_cons_of_mem _ List.mem_cons_self)))))))))))))))))))))))))))))))) ?_
  refine SW.s (fun kk => SP.iload_n (pc' := 91) dX8_init_90 rfl rfl rfl kk) ?_
  refine SW.newO (pc' := 94) dX8_init_91 rfl nX8_9 rfl (n' := 112) (cs' := 77) (ss' := 771) rfl rfl rfl (by decide) (by decide) ?_
  refine SW.s (fun kk => SP.dup (pc' := 95) dX8_init_94 rfl rfl kk) ?_
  refine SW.callI (pc' := 98) dX8_init_95 rfl cX8_35 mX5_init vX5_init rfl rfl (by decide) (n' := 116) (cs' := 81) (ss' := 818) rfl rfl rfl (by decide) (by decide) (Nat.le_of_ble_eq_true rfl) (c_Places (k := 111) rfl (by decide +kernel) rfl (by decide +kernel) rfl (by decide +kernel) rfl rfl) ?_
  refine SW.aastP (i := 1) (t := 111) (pc' := 99) dX8_init_98 rfl rfl (by decide) rfl (by decide) rfl (by decide) (by decide +kernel) ?_
  refine SW.s (fun kk => SP.iinc (LL' := [_, some (iV 2)]) (pc' := 102) dX8_init_99 rfl (by decide) rfl rfl rfl kk) ?_
  refine SW.s (fun kk => SP.goto (pc' := 81) dX8_init_102 (by decide) kk) ?_
  refine SW.s (fun kk => SP.iload_n (pc' := 82) dX8_init_81 rfl rfl rfl kk) ?_
  refine SW.s (fun kk => SP.iconst (pc' := 83) dX8_init_82 rfl kk) ?_
  refine SW.s (fun kk => SP.icmp_ge (tgt := 105) (pc' := 86) dX8_init_83 (by decide) rfl (by unfold fp_rng; decide) (by unfold fp_rng; decide) (fun h => absurd h (by decide)) (fun _ => kk)) ?_
  refine SW.s (fun kk => SP.aload_n (pc' := 87) dX8_init_86 rfl rfl rfl kk) ?_
  refine SW.getR (t := 36) (pc' := 90) dX8_init_87 rfl fX8_17 rfl (by decide) (by decide +kernel) (List.mem_cons_of_mem _ (wPlaces_mem (List.mem_cons_of_mem _ (wPlaces_mem (List.mem_cons_of_mem _ (wPlaces_mem (List.mem_cons_of_mem _ (wPlaces_mem (List.mem_cons_of_mem _ (wPlaces_mem (List.mem_cons_of_mem _ (wPlaces_mem (List.mem_cons_of_mem _ (wPlaces_mem (List.mem_cons_of_mem _ (wPlaces_mem (List.mem_cons_of_mem _ (wPlaces_mem (List.mem_cons_of_mem _ (wPlaces_mem (List.mem_cons_of_mem _ (wPlaces_mem (List.mem_cons_of_mem _ (wPlaces_mem (List.mem_cons_of_mem _ (wPlaces_mem (List.mem_cons_of_mem _ (wPlaces_mem (List.mem_cons_of_mem _ (wPlaces_mem (List.mem_cons_of_mem _ (List.mem_cons_of_mem _ (List.mem_cons_of_mem _ (List.mem_cons_of_mem _ List.mem_cons_self)))))))))))))))))))))))))))))))))) ?_
  refine SW.s (fun kk => SP.iload_n (pc' := 91) dX8_init_90 rfl rfl rfl kk) ?_
  refine SW.newO (pc' := 94) dX8_init_91 rfl nX8_9 rfl (n' := 117) (cs' := 82) (ss' := 822) rfl rfl rfl (by decide) (by decide) ?_
  refine SW.s (fun kk => SP.dup (pc' := 95) dX8_init_94 rfl rfl kk) ?_
  refine SW.callI (pc' := 98) dX8_init_95 rfl cX8_35 mX5_init vX5_init rfl rfl (by decide) (n' := 121) (cs' := 86) (ss' := 869) rfl rfl rfl (by decide) (by decide) (Nat.le_of_ble_eq_true rfl) (c_Places (k := 116) rfl (by decide +kernel) rfl (by decide +kernel) rfl (by decide +kernel) rfl rfl) ?_
  refine SW.aastP (i := 2) (t := 116) (pc' := 99) dX8_init_98 rfl rfl (by decide) rfl (by decide) rfl (by decide) (by decide +kernel) ?_
  refine SW.s (fun kk => SP.iinc (LL' := [_, some (iV 3)]) (pc' := 102) dX8_init_99 rfl (by decide) rfl rfl rfl kk) ?_
  refine SW.s (fun kk => SP.goto (pc' := 81) dX8_init_102 (by decide) kk) ?_
  refine SW.s (fun kk => SP.iload_n (pc' := 82) dX8_init_81 rfl rfl rfl kk) ?_
  refine SW.s (fun kk => SP.iconst (pc' := 83) dX8_init_82 rfl kk) ?_
  refine SW.s (fun kk => SP.icmp_ge (tgt := 105) (pc' := 86) dX8_init_83 (by decide) rfl (by unfold fp_rng; decide) (by unfold fp_rng; decide) (fun _ => kk) (fun h => absurd (by decide) h)) ?_
  exact SW.ret dX8_init_105 rfl
def wDuel (L : List (Nat × Nat)) : List (Nat × Nat) := (121, 5) :: (121, 4) :: (124, 6) :: (124, 5) :: (124, 4) :: (124, 3) :: (124, 2) :: (124, 1) :: (124, 0) :: (121, 3) :: (121, 2) :: L
theorem wDuel_mem {x : Nat × Nat} {L : List (Nat × Nat)} (h : x ∈ L) : x ∈ wDuel L := List.mem_cons_of_mem _ (List.mem_cons_of_mem _ (List.mem_cons_of_mem _ (List.mem_cons_of_mem _ (List.mem_cons_of_mem _ (List.mem_cons_of_mem _ (List.mem_cons_of_mem _ (List.mem_cons_of_mem _ (List.mem_cons_of_mem _ (List.mem_cons_of_mem _ (List.mem_cons_of_mem _ (h)))))))))))
theorem c_Duel {l : Launch} {G : fp_WG} {L : List (Nat × Nat)}  : fp_OkW l G 1 122 11 74 kX0_init [rV G 121] L (wDuel L) := by
  refine fp_OkW.of (r := 0) (nf := 133) rfl (Nat.le_of_ble_eq_true rfl) rfl rfl ?_
  refine SW.s (fun kk => SP.aload_n (pc' := 1) dX0_init_0 rfl rfl rfl kk) ?_
  refine SW.s (fun kk => SP.objInit (pc' := 4) dX0_init_1 rfl oX0_3 (by decide) (Nat.le_of_ble_eq_true rfl) kk) ?_
  refine SW.s (fun kk => SP.aload_n (pc' := 5) dX0_init_4 rfl rfl rfl kk) ?_
  refine SW.s (fun kk => SP.iconst (pc' := 6) dX0_init_5 rfl kk) ?_
  refine SW.newI (pc' := 8) dX0_init_6 rfl rfl rfl (n' := 123) (cs' := 1) (ss' := 2) rfl rfl rfl (by decide) (by decide) ?_
  refine SW.putR (t := 122) (pc' := 11) dX0_init_8 rfl fX0_9 rfl (by decide) rfl (fun q h => by cases h; rfl) (Or.inr ⟨_, rfl⟩) (by decide +kernel) ?_
  refine SW.s (fun kk => SP.aload_n (pc' := 12) dX0_init_11 rfl rfl rfl kk) ?_
  refine SW.s (fun kk => SP.iconst (pc' := 13) dX0_init_12 rfl kk) ?_
  refine SW.newI (pc' := 15) dX0_init_13 rfl rfl rfl (n' := 124) (cs' := 2) (ss' := 4) rfl rfl rfl (by decide) (by decide) ?_
  refine SW.putR (t := 123) (pc' := 18) dX0_init_15 rfl fX0_15 rfl (by decide) rfl (fun q h => by cases h; rfl) (Or.inr ⟨_, rfl⟩) (by decide +kernel) ?_
  refine SW.s (fun kk => SP.aload_n (pc' := 19) dX0_init_18 rfl rfl rfl kk) ?_
  refine SW.s (fun kk => SP.bipush (pc' := 21) dX0_init_19 rfl rfl kk) ?_
  refine SW.s (fun kk => SP.bipush (pc' := 23) dX0_init_21 rfl rfl kk) ?_
  refine SW.newM (pc' := 27) dX0_init_23 rfl kX0_18 rfl (by decide +kernel) (n' := 132) (cs' := 10) (ss' := 67) rfl rfl rfl (by decide) (by decide) (by decide +kernel) ?_
  refine SW.putR (t := 124) (pc' := 30) dX0_init_27 rfl fX0_20 rfl (by decide) rfl (fun q h => by cases h; rfl) (Or.inr ⟨_, rfl⟩) (by decide +kernel) ?_
  refine SW.s (fun kk => SP.aload_n (pc' := 31) dX0_init_30 rfl rfl rfl kk) ?_
  refine SW.s (fun kk => SP.bipush (pc' := 33) dX0_init_31 rfl rfl kk) ?_
  refine SW.newI (pc' := 35) dX0_init_33 rfl rfl rfl (n' := 133) (cs' := 11) (ss' := 74) rfl rfl rfl (by decide) (by decide) ?_
  refine SW.putR (t := 132) (pc' := 38) dX0_init_35 rfl fX0_23 rfl (by decide) rfl (fun q h => by cases h; rfl) (Or.inr ⟨_, rfl⟩) (by decide +kernel) ?_
  exact SW.ret dX0_init_38 rfl
def wOrders (L : List (Nat × Nat)) : List (Nat × Nat) := (133, 4) :: (133, 2) :: L
theorem wOrders_mem {x : Nat × Nat} {L : List (Nat × Nat)} (h : x ∈ L) : x ∈ wOrders L := List.mem_cons_of_mem _ (List.mem_cons_of_mem _ (h))
theorem c_Orders {l : Launch} {G : fp_WG} {L : List (Nat × Nat)}  : fp_OkW l G 1 134 2 16 kX4_init [rV G 133] L (wOrders L) := by
  refine fp_OkW.of (r := 0) (nf := 136) rfl (Nat.le_of_ble_eq_true rfl) rfl rfl ?_
  refine SW.s (fun kk => SP.aload_n (pc' := 1) dX4_init_0 rfl rfl rfl kk) ?_
  refine SW.s (fun kk => SP.objInit (pc' := 4) dX4_init_1 rfl oX4_3 (by decide) (Nat.le_of_ble_eq_true rfl) kk) ?_
  refine SW.s (fun kk => SP.aload_n (pc' := 5) dX4_init_4 rfl rfl rfl kk) ?_
  refine SW.s (fun kk => SP.bipush (pc' := 7) dX4_init_5 rfl rfl kk) ?_
  refine SW.newI (pc' := 9) dX4_init_7 rfl rfl rfl (n' := 135) (cs' := 1) (ss' := 8) rfl rfl rfl (by decide) (by decide) ?_
  refine SW.putR (t := 134) (pc' := 12) dX4_init_9 rfl fX4_9 rfl (by decide) rfl (fun q h => by cases h; rfl) (Or.inr ⟨_, rfl⟩) (by decide +kernel) ?_
  refine SW.s (fun kk => SP.aload_n (pc' := 13) dX4_init_12 rfl rfl rfl kk) ?_
  refine SW.s (fun kk => SP.bipush (pc' := 15) dX4_init_13 rfl rfl kk) ?_
  refine SW.newI (pc' := 17) dX4_init_15 rfl rfl rfl (n' := 136) (cs' := 2) (ss' := 16) rfl rfl rfl (by decide) (by decide) ?_
  refine SW.putR (t := 135) (pc' := 20) dX4_init_17 rfl fX4_15 rfl (by decide) rfl (fun q h => by cases h; rfl) (Or.inr ⟨_, rfl⟩) (by decide +kernel) ?_
  exact SW.ret dX4_init_20 rfl
def wRings (L : List (Nat × Nat)) : List (Nat × Nat) := (136, 3) :: (136, 2) :: (136, 1) :: (136, 0) :: L
theorem wRings_mem {x : Nat × Nat} {L : List (Nat × Nat)} (h : x ∈ L) : x ∈ wRings L := List.mem_cons_of_mem _ (List.mem_cons_of_mem _ (List.mem_cons_of_mem _ (List.mem_cons_of_mem _ (h))))
theorem c_Rings {l : Launch} {G : fp_WG} {L : List (Nat × Nat)}  : fp_OkW l G 1 137 4 16 kX7_init [rV G 136] L (wRings L) := by
  refine fp_OkW.of (r := 0) (nf := 141) rfl (Nat.le_of_ble_eq_true rfl) rfl rfl ?_
  refine SW.s (fun kk => SP.aload_n (pc' := 1) dX7_init_0 rfl rfl rfl kk) ?_
  refine SW.s (fun kk => SP.objInit (pc' := 4) dX7_init_1 rfl oX7_3 (by decide) (Nat.le_of_ble_eq_true rfl) kk) ?_
  refine SW.s (fun kk => SP.aload_n (pc' := 5) dX7_init_4 rfl rfl rfl kk) ?_
  refine SW.s (fun kk => SP.iconst (pc' := 6) dX7_init_5 rfl kk) ?_
  refine SW.newI (pc' := 8) dX7_init_6 rfl rfl rfl (n' := 138) (cs' := 1) (ss' := 4) rfl rfl rfl (by decide) (by decide) ?_
  refine SW.putR (t := 137) (pc' := 11) dX7_init_8 rfl fX7_9 rfl (by decide) rfl (fun q h => by cases h; rfl) (Or.inr ⟨_, rfl⟩) (by decide +kernel) ?_
  refine SW.s (fun kk => SP.aload_n (pc' := 12) dX7_init_11 rfl rfl rfl kk) ?_
  refine SW.s (fun kk => SP.iconst (pc' := 13) dX7_init_12 rfl kk) ?_
  refine SW.newI (pc' := 15) dX7_init_13 rfl rfl rfl (n' := 139) (cs' := 2) (ss' := 8) rfl rfl rfl (by decide) (by decide) ?_
  refine SW.putR (t := 138) (pc' := 18) dX7_init_15 rfl fX7_15 rfl (by decide) rfl (fun q h => by cases h; rfl) (Or.inr ⟨_, rfl⟩) (by decide +kernel) ?_
  refine SW.s (fun kk => SP.aload_n (pc' := 19) dX7_init_18 rfl rfl rfl kk) ?_
  refine SW.s (fun kk => SP.iconst (pc' := 20) dX7_init_19 rfl kk) ?_
  refine SW.newI (pc' := 22) dX7_init_20 rfl rfl rfl (n' := 140) (cs' := 3) (ss' := 12) rfl rfl rfl (by decide) (by decide) ?_
  refine SW.putR (t := 139) (pc' := 25) dX7_init_22 rfl fX7_18 rfl (by decide) rfl (fun q h => by cases h; rfl) (Or.inr ⟨_, rfl⟩) (by decide +kernel) ?_
  refine SW.s (fun kk => SP.aload_n (pc' := 26) dX7_init_25 rfl rfl rfl kk) ?_
  refine SW.s (fun kk => SP.iconst (pc' := 27) dX7_init_26 rfl kk) ?_
  refine SW.newI (pc' := 29) dX7_init_27 rfl rfl rfl (n' := 141) (cs' := 4) (ss' := 16) rfl rfl rfl (by decide) (by decide) ?_
  refine SW.putR (t := 140) (pc' := 32) dX7_init_29 rfl fX7_21 rfl (by decide) rfl (fun q h => by cases h; rfl) (Or.inr ⟨_, rfl⟩) (by decide +kernel) ?_
  exact SW.ret dX7_init_32 rfl
def wFirstPut (L : List (Nat × Nat)) : List (Nat × Nat) := (142, 3) :: wSheet 175 ((142, 2) :: wSheet 173 ((142, 1) :: wSheet 171 ((142, 0) :: wSheet 169 ((141, 1) :: wImage 156 ((141, 0) :: wImage 143 ((0, 12) :: (0, 11) :: (0, 10) :: wRings ((0, 9) :: wOrders ((0, 8) :: wDuel ((0, 7) :: wRuns ((0, 6) :: wNotes 32 ((0, 5) :: wVisits 27 ((0, 4) :: wPlaces 22 ((0, 3) :: wGoods 18 ((0, 2) :: wReader ((0, 0) :: L)))))))))))))))
theorem wFirstPut_mem {x : Nat × Nat} {L : List (Nat × Nat)} (h : x ∈ L) : x ∈ wFirstPut L := List.mem_cons_of_mem _ (wSheet_mem (List.mem_cons_of_mem _ (wSheet_mem (List.mem_cons_of_mem _ (wSheet_mem (List.mem_cons_of_mem _ (wSheet_mem (List.mem_cons_of_mem _ (wImage_mem (List.mem_cons_of_mem _ (wImage_mem (List.mem_cons_of_mem _ (List.mem_cons_of_mem _ (List.mem_cons_of_mem _ (wRings_mem (List.mem_cons_of_mem _ (wOrders_mem (List.mem_cons_of_mem _ (wDuel_mem (List.mem_cons_of_mem _ (wRuns_mem (List.mem_cons_of_mem _ (wNotes_mem (List.mem_cons_of_mem _ (wVisits_mem (List.mem_cons_of_mem _ (wPlaces_mem (List.mem_cons_of_mem _ (wGoods_mem (List.mem_cons_of_mem _ (wReader_mem (List.mem_cons_of_mem _ (h)))))))))))))))))))))))))))))))))
theorem c_FirstPut {l : Launch} {G : fp_WG} {L : List (Nat × Nat)}  : fp_OkW l G 3 1 176 2251 kX11_init [rV G 0] L (wFirstPut L) := by
  refine fp_OkW.of (r := 1) (nf := 177) rfl (Nat.le_of_ble_eq_true rfl) rfl rfl ?_
  refine SW.s (fun kk => SP.aload_n (pc' := 1) dX11_init_0 rfl rfl rfl kk) ?_
  refine SW.s (fun kk => SP.objInit (pc' := 4) dX11_init_1 rfl oX11_1 (by decide) (Nat.le_of_ble_eq_true rfl) kk) ?_
  refine SW.s (fun kk => SP.aload_n (pc' := 5) dX11_init_4 rfl rfl rfl kk) ?_
  refine SW.s (fun kk => SP.sipush (pc' := 8) dX11_init_5 rfl rfl kk) ?_
  refine SW.newB (pc' := 10) dX11_init_8 rfl rfl rfl (n' := 2) (cs' := 1) (ss' := 480) rfl rfl rfl (by decide) (by decide) ?_
  refine SW.putR (t := 1) (pc' := 13) dX11_init_10 rfl fX11_9 rfl (by decide) rfl (fun q h => by cases h; rfl) (Or.inr ⟨_, rfl⟩) (by decide +kernel) ?_
  refine SW.s (fun kk => SP.aload_n (pc' := 14) dX11_init_13 rfl rfl rfl kk) ?_
  refine SW.newO (pc' := 17) dX11_init_14 rfl nX11_13 rfl (n' := 3) (cs' := 2) (ss' := 493) rfl rfl rfl (by decide) (by decide) ?_
  refine SW.s (fun kk => SP.dup (pc' := 18) dX11_init_17 rfl rfl kk) ?_
  refine SW.callIN (pc' := 21) dX11_init_18 rfl cX11_15 mX6_init vX6_init rfl rfl (by decide) (n' := 18) (cs' := 17) (ss' := 661) rfl rfl rfl (by decide) (by decide) (Nat.le_of_ble_eq_true rfl) (c_Reader) ?_
  refine SW.putR (t := 2) (pc' := 24) dX11_init_21 rfl fX11_16 rfl (by decide) rfl (fun q h => by cases h; rfl) (Or.inl ⟨_, rfl⟩) (by decide +kernel) ?_
  refine SW.s (fun kk => SP.aload_n (pc' := 25) dX11_init_24 rfl rfl rfl kk) ?_
  refine SW.newO (pc' := 28) dX11_init_25 rfl nX11_20 rfl (n' := 19) (cs' := 18) (ss' := 667) rfl rfl rfl (by decide) (by decide) ?_
  refine SW.s (fun kk => SP.dup (pc' := 29) dX11_init_28 rfl rfl kk) ?_
  refine SW.callIN (pc' := 32) dX11_init_29 rfl cX11_22 mX1_init vX1_init rfl rfl (by decide) (n' := 22) (cs' := 21) (ss' := 725) rfl rfl rfl (by decide) (by decide) (Nat.le_of_ble_eq_true rfl) (c_Goods (k := 18) rfl (by decide +kernel) rfl rfl rfl) ?_
  refine SW.putR (t := 18) (pc' := 35) dX11_init_32 rfl fX11_23 rfl (by decide) rfl (fun q h => by cases h; rfl) (Or.inl ⟨_, rfl⟩) (by decide +kernel) ?_
  refine SW.s (fun kk => SP.aload_n (pc' := 36) dX11_init_35 rfl rfl rfl kk) ?_
  refine SW.newO (pc' := 39) dX11_init_36 rfl nX11_27 rfl (n' := 23) (cs' := 22) (ss' := 729) rfl rfl rfl (by decide) (by decide) ?_
  refine SW.s (fun kk => SP.dup (pc' := 40) dX11_init_39 rfl rfl kk) ?_
  refine SW.callI (pc' := 43) dX11_init_40 rfl cX11_29 mX5_init vX5_init rfl rfl (by decide) (n' := 27) (cs' := 26) (ss' := 776) rfl rfl rfl (by decide) (by decide) (Nat.le_of_ble_eq_true rfl) (c_Places (k := 22) rfl (by decide +kernel) rfl (by decide +kernel) rfl (by decide +kernel) rfl rfl) ?_
  refine SW.putR (t := 22) (pc' := 46) dX11_init_43 rfl fX11_30 rfl (by decide) rfl (fun q h => by cases h; rfl) (Or.inl ⟨_, rfl⟩) (by decide +kernel) ?_
  refine SW.s (fun kk => SP.aload_n (pc' := 47) dX11_init_46 rfl rfl rfl kk) ?_
  refine SW.newO (pc' := 50) dX11_init_47 rfl nX11_34 rfl (n' := 28) (cs' := 27) (ss' := 781) rfl rfl rfl (by decide) (by decide) ?_
  refine SW.s (fun kk => SP.dup (pc' := 51) dX11_init_50 rfl rfl kk) ?_
  refine SW.callIN (pc' := 54) dX11_init_51 rfl cX11_36 mX10_init vX10_init rfl rfl (by decide) (n' := 32) (cs' := 31) (ss' := 829) rfl rfl rfl (by decide) (by decide) (Nat.le_of_ble_eq_true rfl) (c_Visits (k := 27) rfl (by decide +kernel) rfl rfl rfl rfl) ?_
  refine SW.putR (t := 27) (pc' := 57) dX11_init_54 rfl fX11_37 rfl (by decide) rfl (fun q h => by cases h; rfl) (Or.inl ⟨_, rfl⟩) (by decide +kernel) ?_
  refine SW.s (fun kk => SP.aload_n (pc' := 58) dX11_init_57 rfl rfl rfl kk) ?_
  refine SW.newO (pc' := 61) dX11_init_58 rfl nX11_41 rfl (n' := 33) (cs' := 32) (ss' := 831) rfl rfl rfl (by decide) (by decide) ?_
  refine SW.s (fun kk => SP.dup (pc' := 62) dX11_init_61 rfl rfl kk) ?_
  refine SW.callIN (pc' := 65) dX11_init_62 rfl cX11_43 mX3_init vX3_init rfl rfl (by decide) (n' := 34) (cs' := 33) (ss' := 839) rfl rfl rfl (by decide) (by decide) (Nat.le_of_ble_eq_true rfl) (c_Notes (k := 32) rfl (by decide +kernel) rfl) ?_
  refine SW.putR (t := 32) (pc' := 68) dX11_init_65 rfl fX11_44 rfl (by decide) rfl (fun q h => by cases h; rfl) (Or.inl ⟨_, rfl⟩) (by decide +kernel) ?_
  refine SW.s (fun kk => SP.aload_n (pc' := 69) dX11_init_68 rfl rfl rfl kk) ?_
  refine SW.newO (pc' := 72) dX11_init_69 rfl nX11_48 rfl (n' := 35) (cs' := 34) (ss' := 846) rfl rfl rfl (by decide) (by decide) ?_
  refine SW.s (fun kk => SP.dup (pc' := 73) dX11_init_72 rfl rfl kk) ?_
  refine SW.callI (pc' := 76) dX11_init_73 rfl cX11_50 mX8_init vX8_init rfl rfl (by decide) (n' := 121) (cs' := 120) (ss' := 1715) rfl rfl rfl (by decide) (by decide) (Nat.le_of_ble_eq_true rfl) (c_Runs) ?_
  refine SW.putR (t := 34) (pc' := 79) dX11_init_76 rfl fX11_51 rfl (by decide) rfl (fun q h => by cases h; rfl) (Or.inl ⟨_, rfl⟩) (by decide +kernel) ?_
  refine SW.s (fun kk => SP.aload_n (pc' := 80) dX11_init_79 rfl rfl rfl kk) ?_
  refine SW.newO (pc' := 83) dX11_init_80 rfl nX11_55 rfl (n' := 122) (cs' := 121) (ss' := 1721) rfl rfl rfl (by decide) (by decide) ?_
  refine SW.s (fun kk => SP.dup (pc' := 84) dX11_init_83 rfl rfl kk) ?_
  refine SW.callIN (pc' := 87) dX11_init_84 rfl cX11_57 mX0_init vX0_init rfl rfl (by decide) (n' := 133) (cs' := 132) (ss' := 1795) rfl rfl rfl (by decide) (by decide) (Nat.le_of_ble_eq_true rfl) (c_Duel) ?_
  refine SW.putR (t := 121) (pc' := 90) dX11_init_87 rfl fX11_58 rfl (by decide) rfl (fun q h => by cases h; rfl) (Or.inl ⟨_, rfl⟩) (by decide +kernel) ?_
  refine SW.s (fun kk => SP.aload_n (pc' := 91) dX11_init_90 rfl rfl rfl kk) ?_
  refine SW.newO (pc' := 94) dX11_init_91 rfl nX11_62 rfl (n' := 134) (cs' := 133) (ss' := 1800) rfl rfl rfl (by decide) (by decide) ?_
  refine SW.s (fun kk => SP.dup (pc' := 95) dX11_init_94 rfl rfl kk) ?_
  refine SW.callIN (pc' := 98) dX11_init_95 rfl cX11_64 mX4_init vX4_init rfl rfl (by decide) (n' := 136) (cs' := 135) (ss' := 1816) rfl rfl rfl (by decide) (by decide) (Nat.le_of_ble_eq_true rfl) (c_Orders) ?_
  refine SW.putR (t := 133) (pc' := 101) dX11_init_98 rfl fX11_65 rfl (by decide) rfl (fun q h => by cases h; rfl) (Or.inl ⟨_, rfl⟩) (by decide +kernel) ?_
  refine SW.s (fun kk => SP.aload_n (pc' := 102) dX11_init_101 rfl rfl rfl kk) ?_
  refine SW.newO (pc' := 105) dX11_init_102 rfl nX11_69 rfl (n' := 137) (cs' := 136) (ss' := 1821) rfl rfl rfl (by decide) (by decide) ?_
  refine SW.s (fun kk => SP.dup (pc' := 106) dX11_init_105 rfl rfl kk) ?_
  refine SW.callIN (pc' := 109) dX11_init_106 rfl cX11_71 mX7_init vX7_init rfl rfl (by decide) (n' := 141) (cs' := 140) (ss' := 1837) rfl rfl rfl (by decide) (by decide) (Nat.le_of_ble_eq_true rfl) (c_Rings) ?_
  refine SW.putR (t := 136) (pc' := 112) dX11_init_109 rfl fX11_72 rfl (by decide) rfl (fun q h => by cases h; rfl) (Or.inl ⟨_, rfl⟩) (by decide +kernel) ?_
  refine SW.s (fun kk => SP.aload_n (pc' := 113) dX11_init_112 rfl rfl rfl kk) ?_
  refine SW.s (fun kk => SP.iconst (pc' := 114) dX11_init_113 rfl kk) ?_
  refine SW.anewI (pc' := 117) dX11_init_114 rfl kX11_76 rfl rfl (n' := 142) (cs' := 141) (ss' := 1839) rfl rfl rfl (by decide) (by decide) ?_
  refine SW.putR (t := 141) (pc' := 120) dX11_init_117 rfl fX11_78 rfl (by decide) rfl (fun q h => by cases h; rfl) (Or.inr ⟨_, rfl⟩) (by decide +kernel) ?_
  refine SW.s (fun kk => SP.aload_n (pc' := 121) dX11_init_120 rfl rfl rfl kk) ?_
  refine SW.s (fun kk => SP.iconst (pc' := 122) dX11_init_121 rfl kk) ?_
  refine SW.anewS (pc' := 125) dX11_init_122 rfl kX11_82 rfl rfl (n' := 143) (cs' := 142) (ss' := 1843) rfl rfl rfl (by decide) (by decide) ?_
  refine SW.putR (t := 142) (pc' := 128) dX11_init_125 rfl fX11_84 rfl (by decide) rfl (fun q h => by cases h; rfl) (Or.inr ⟨_, rfl⟩) (by decide +kernel) ?_
  refine SW.s (fun kk => SP.iconst (pc' := 129) dX11_init_128 rfl kk) ?_
  refine SW.s (fun kk => SP.istore_n (LL' := [_, _]) (pc' := 130) dX11_init_129 rfl (by decide) rfl rfl rfl kk) ?_
  refine SW.s (fun kk => SP.iload_n (pc' := 131) dX11_init_130 rfl rfl rfl kk) ?_
  refine SW.s (fun kk => SP.iconst (pc' := 132) dX11_init_131 rfl kk) ?_
  refine SW.s (fun kk => SP.icmp_ge (tgt := 154) (pc' := 135) dX11_init_132 (by decide) rfl (by unfold fp_rng; decide) (by unfold fp_rng; decide) (fun h => absurd h (by decide)) (fun _ => kk)) ?_
  refine SW.s (fun kk => SP.aload_n (pc' := 136) dX11_init_135 rfl rfl rfl kk) ?_
  refine SW.getR (t := 141) (pc' := 139) dX11_init_136 rfl fX11_78 rfl (by decide) (by decide +kernel) (List.mem_cons_of_mem _ List.mem_cons_self) ?_
  refine SW.s (fun kk => SP.iload_n (pc' := 140) dX11_init_139 rfl rfl rfl kk) ?_
  refine SW.newO (pc' := 143) dX11_init_140 rfl nX11_76 rfl (n' := 144) (cs' := 143) (ss' := 1847) rfl rfl rfl (by decide) (by decide) ?_
  refine SW.s (fun kk => SP.dup (pc' := 144) dX11_init_143 rfl rfl kk) ?_
  refine SW.callIN (pc' := 147) dX11_init_144 rfl cX11_88 mX2_init vX2_init rfl rfl (by decide) (n' := 156) (cs' := 155) (ss' := 1961) rfl rfl rfl (by decide) (by decide) (Nat.le_of_ble_eq_true rfl) (c_Image (k := 143) rfl (by decide +kernel) rfl (by decide +kernel) rfl (by decide +kernel) rfl (by decide +kernel) rfl rfl rfl (by decide +kernel) rfl rfl rfl rfl rfl (by decide +kernel) rfl) ?_
  refine SW.aastI (i := 0) (t := 143) (pc' := 148) dX11_init_147 rfl rfl (by decide) rfl (by decide) rfl (by decide) (by decide +kernel) ?_
  refine SW.s (fun kk => SP.iinc (LL' := [_, some (iV 1)]) (pc' := 151) dX11_init_148 rfl (by decide) rfl rfl rfl kk) ?_
  refine SW.s (fun kk => SP.goto (pc' := 130) dX11_init_151 (by decide) kk) ?_
  refine SW.s (fun kk => SP.iload_n (pc' := 131) dX11_init_130 rfl rfl rfl kk) ?_
  refine SW.s (fun kk => SP.iconst (pc' := 132) dX11_init_131 rfl kk) ?_
  refine SW.s (fun kk => SP.icmp_ge (tgt := 154) (pc' := 135) dX11_init_132 (by decide) rfl (by unfold fp_rng; decide) (by unfold fp_rng; decide) (fun h => absurd h (by decide)) (fun _ => kk)) ?_
  refine SW.s (fun kk => SP.aload_n (pc' := 136) dX11_init_135 rfl rfl rfl kk) ?_
  refine SW.getR (t := 141) (pc' := 139) dX11_init_136 rfl fX11_78 rfl (by decide) (by decide +kernel) (List.mem_cons_of_mem _ (wImage_mem (List.mem_cons_of_mem _ List.mem_cons_self))) ?_
  refine SW.s (fun kk => SP.iload_n (pc' := 140) dX11_init_139 rfl rfl rfl kk) ?_
  refine SW.newO (pc' := 143) dX11_init_140 rfl nX11_76 rfl (n' := 157) (cs' := 156) (ss' := 1965) rfl rfl rfl (by decide) (by decide) ?_
  refine SW.s (fun kk => SP.dup (pc' := 144) dX11_init_143 rfl rfl kk) ?_
  refine SW.callIN (pc' := 147) dX11_init_144 rfl cX11_88 mX2_init vX2_init rfl rfl (by decide) (n' := 169) (cs' := 168) (ss' := 2079) rfl rfl rfl (by decide) (by decide) (Nat.le_of_ble_eq_true rfl) (c_Image (k := 156) rfl (by decide +kernel) rfl (by decide +kernel) rfl (by decide +kernel) rfl (by decide +kernel) rfl rfl rfl (by decide +kernel) rfl rfl rfl rfl rfl (by decide +kernel) rfl) ?_
  refine SW.aastI (i := 1) (t := 156) (pc' := 148) dX11_init_147 rfl rfl (by decide) rfl (by decide) rfl (by decide) (by decide +kernel) ?_
  refine SW.s (fun kk => SP.iinc (LL' := [_, some (iV 2)]) (pc' := 151) dX11_init_148 rfl (by decide) rfl rfl rfl kk) ?_
  refine SW.s (fun kk => SP.goto (pc' := 130) dX11_init_151 (by decide) kk) ?_
  refine SW.s (fun kk => SP.iload_n (pc' := 131) dX11_init_130 rfl rfl rfl kk) ?_
  refine SW.s (fun kk => SP.iconst (pc' := 132) dX11_init_131 rfl kk) ?_
  refine SW.s (fun kk => SP.icmp_ge (tgt := 154) (pc' := 135) dX11_init_132 (by decide) rfl (by unfold fp_rng; decide) (by unfold fp_rng; decide) (fun _ => kk) (fun h => absurd (by decide) h)) ?_
  refine SW.s (fun kk => SP.iconst (pc' := 155) dX11_init_154 rfl kk) ?_
  refine SW.s (fun kk => SP.istore_n (LL' := [_, _]) (pc' := 156) dX11_init_155 rfl (by decide) rfl rfl rfl kk) ?_
  refine SW.s (fun kk => SP.iload_n (pc' := 157) dX11_init_156 rfl rfl rfl kk) ?_
  refine SW.s (fun kk => SP.iconst (pc' := 158) dX11_init_157 rfl kk) ?_
  refine SW.s (fun kk => SP.icmp_ge (tgt := 180) (pc' := 161) dX11_init_158 (by decide) rfl (by unfold fp_rng; decide) (by unfold fp_rng; decide) (fun h => absurd h (by decide)) (fun _ => kk)) ?_
  refine SW.s (fun kk => SP.aload_n (pc' := 162) dX11_init_161 rfl rfl rfl kk) ?_
  refine SW.getR (t := 142) (pc' := 165) dX11_init_162 rfl fX11_84 rfl (by decide) (by decide +kernel) (List.mem_cons_of_mem _ (wImage_mem (List.mem_cons_of_mem _ (wImage_mem List.mem_cons_self)))) ?_
  refine SW.s (fun kk => SP.iload_n (pc' := 166) dX11_init_165 rfl rfl rfl kk) ?_
  refine SW.newO (pc' := 169) dX11_init_166 rfl nX11_82 rfl (n' := 170) (cs' := 169) (ss' := 2082) rfl rfl rfl (by decide) (by decide) ?_
  refine SW.s (fun kk => SP.dup (pc' := 170) dX11_init_169 rfl rfl kk) ?_
  refine SW.callIN (pc' := 173) dX11_init_170 rfl cX11_89 mX9_init vX9_init rfl rfl (by decide) (n' := 171) (cs' := 170) (ss' := 2122) rfl rfl rfl (by decide) (by decide) (Nat.le_of_ble_eq_true rfl) (c_Sheet (k := 169) rfl (by decide +kernel) rfl) ?_
  refine SW.aastS (i := 0) (t := 169) (pc' := 174) dX11_init_173 rfl rfl (by decide) rfl (by decide) rfl (by decide) (by decide +kernel) ?_
  refine SW.s (fun kk => SP.iinc (LL' := [_, some (iV 1)]) (pc' := 177) dX11_init_174 rfl (by decide) rfl rfl rfl kk) ?_
  refine SW.s (fun kk => SP.goto (pc' := 156) dX11_init_177 (by decide) kk) ?_
  refine SW.s (fun kk => SP.iload_n (pc' := 157) dX11_init_156 rfl rfl rfl kk) ?_
  refine SW.s (fun kk => SP.iconst (pc' := 158) dX11_init_157 rfl kk) ?_
  refine SW.s (fun kk => SP.icmp_ge (tgt := 180) (pc' := 161) dX11_init_158 (by decide) rfl (by unfold fp_rng; decide) (by unfold fp_rng; decide) (fun h => absurd h (by decide)) (fun _ => kk)) ?_
  refine SW.s (fun kk => SP.aload_n (pc' := 162) dX11_init_161 rfl rfl rfl kk) ?_
  refine SW.getR (t := 142) (pc' := 165) dX11_init_162 rfl fX11_84 rfl (by decide) (by decide +kernel) (List.mem_cons_of_mem _ (wSheet_mem (List.mem_cons_of_mem _ (wImage_mem (List.mem_cons_of_mem _ (wImage_mem List.mem_cons_self)))))) ?_
  refine SW.s (fun kk => SP.iload_n (pc' := 166) dX11_init_165 rfl rfl rfl kk) ?_
  refine SW.newO (pc' := 169) dX11_init_166 rfl nX11_82 rfl (n' := 172) (cs' := 171) (ss' := 2125) rfl rfl rfl (by decide) (by decide) ?_
  refine SW.s (fun kk => SP.dup (pc' := 170) dX11_init_169 rfl rfl kk) ?_
  refine SW.callIN (pc' := 173) dX11_init_170 rfl cX11_89 mX9_init vX9_init rfl rfl (by decide) (n' := 173) (cs' := 172) (ss' := 2165) rfl rfl rfl (by decide) (by decide) (Nat.le_of_ble_eq_true rfl) (c_Sheet (k := 171) rfl (by decide +kernel) rfl) ?_
  refine SW.aastS (i := 1) (t := 171) (pc' := 174) dX11_init_173 rfl rfl (by decide) rfl (by decide) rfl (by decide) (by decide +kernel) ?_
  refine SW.s (fun kk => SP.iinc (LL' := [_, some (iV 2)]) (pc' := 177) dX11_init_174 rfl (by decide) rfl rfl rfl kk) ?_
  refine SW.s (fun kk => SP.goto (pc' := 156) dX11_init_177 (by decide) kk) ?_
  refine SW.s (fun kk => SP.iload_n (pc' := 157) dX11_init_156 rfl rfl rfl kk) ?_
  refine SW.s (fun kk => SP.iconst (pc' := 158) dX11_init_157 rfl kk) ?_
  refine SW.s (fun kk => SP.icmp_ge (tgt := 180) (pc' := 161) dX11_init_158 (by decide) rfl (by unfold fp_rng; decide) (by unfold fp_rng; decide) (fun h => absurd h (by decide)) (fun _ => kk)) ?_
  refine SW.s (fun kk => SP.aload_n (pc' := 162) dX11_init_161 rfl rfl rfl kk) ?_
  refine SW.getR (t := 142) (pc' := 165) dX11_init_162 rfl fX11_84 rfl (by decide) (by decide +kernel) (List.mem_cons_of_mem _ (wSheet_mem (List.mem_cons_of_mem _ (wSheet_mem (List.mem_cons_of_mem _ (wImage_mem (List.mem_cons_of_mem _ (wImage_mem List.mem_cons_self)))))))) ?_
  refine SW.s (fun kk => SP.iload_n (pc' := 166) dX11_init_165 rfl rfl rfl kk) ?_
  refine SW.newO (pc' := 169) dX11_init_166 rfl nX11_82 rfl (n' := 174) (cs' := 173) (ss' := 2168) rfl rfl rfl (by decide) (by decide) ?_
  refine SW.s (fun kk => SP.dup (pc' := 170) dX11_init_169 rfl rfl kk) ?_
  refine SW.callIN (pc' := 173) dX11_init_170 rfl cX11_89 mX9_init vX9_init rfl rfl (by decide) (n' := 175) (cs' := 174) (ss' := 2208) rfl rfl rfl (by decide) (by decide) (Nat.le_of_ble_eq_true rfl) (c_Sheet (k := 173) rfl (by decide +kernel) rfl) ?_
  refine SW.aastS (i := 2) (t := 173) (pc' := 174) dX11_init_173 rfl rfl (by decide) rfl (by decide) rfl (by decide) (by decide +kernel) ?_
  refine SW.s (fun kk => SP.iinc (LL' := [_, some (iV 3)]) (pc' := 177) dX11_init_174 rfl (by decide) rfl rfl rfl kk) ?_
  refine SW.s (fun kk => SP.goto (pc' := 156) dX11_init_177 (by decide) kk) ?_
  refine SW.s (fun kk => SP.iload_n (pc' := 157) dX11_init_156 rfl rfl rfl kk) ?_
  refine SW.s (fun kk => SP.iconst (pc' := 158) dX11_init_157 rfl kk) ?_
  refine SW.s (fun kk => SP.icmp_ge (tgt := 180) (pc' := 161) dX11_init_158 (by decide) rfl (by unfold fp_rng; decide) (by unfold fp_rng; decide) (fun h => absurd h (by decide)) (fun _ => kk)) ?_
  refine SW.s (fun kk => SP.aload_n (pc' := 162) dX11_init_161 rfl rfl rfl kk) ?_
  refine SW.getR (t := 142) (pc' := 165) dX11_init_162 rfl fX11_84 rfl (by decide) (by decide +kernel) (List.mem_cons_of_mem _ (wSheet_mem (List.mem_cons_of_mem _ (wSheet_mem (List.mem_cons_of_mem _ (wSheet_mem (List.mem_cons_of_mem _ (wImage_mem (List.mem_cons_of_mem _ (wImage_mem List.mem_cons_self)))))))))) ?_
  refine SW.s (fun kk => SP.iload_n (pc' := 166) dX11_init_165 rfl rfl rfl kk) ?_
  refine SW.newO (pc' := 169) dX11_init_166 rfl nX11_82 rfl (n' := 176) (cs' := 175) (ss' := 2211) rfl rfl rfl (by decide) (by decide) ?_
  refine SW.s (fun kk => SP.dup (pc' := 170) dX11_init_169 rfl rfl kk) ?_
  refine SW.callIN (pc' := 173) dX11_init_170 rfl cX11_89 mX9_init vX9_init rfl rfl (by decide) (n' := 177) (cs' := 176) (ss' := 2251) rfl rfl rfl (by decide) (by decide) (Nat.le_of_ble_eq_true rfl) (c_Sheet (k := 175) rfl (by decide +kernel) rfl) ?_
  refine SW.aastS (i := 3) (t := 175) (pc' := 174) dX11_init_173 rfl rfl (by decide) rfl (by decide) rfl (by decide) (by decide +kernel) ?_
  refine SW.s (fun kk => SP.iinc (LL' := [_, some (iV 4)]) (pc' := 177) dX11_init_174 rfl (by decide) rfl rfl rfl kk) ?_
  refine SW.s (fun kk => SP.goto (pc' := 156) dX11_init_177 (by decide) kk) ?_
  refine SW.s (fun kk => SP.iload_n (pc' := 157) dX11_init_156 rfl rfl rfl kk) ?_
  refine SW.s (fun kk => SP.iconst (pc' := 158) dX11_init_157 rfl kk) ?_
  refine SW.s (fun kk => SP.icmp_ge (tgt := 180) (pc' := 161) dX11_init_158 (by decide) rfl (by unfold fp_rng; decide) (by unfold fp_rng; decide) (fun _ => kk) (fun h => absurd (by decide) h)) ?_
  exact SW.ret dX11_init_180 rfl
def wModel (L : List (Nat × Nat)) : List (Nat × Nat) := (177, 43) :: (177, 42) :: (177, 41) :: (200, 3) :: (200, 2) :: (200, 1) :: (200, 0) :: (177, 40) :: (177, 39) :: (177, 38) :: (177, 37) :: (177, 36) :: (177, 35) :: (177, 34) :: (177, 32) :: (177, 31) :: (177, 30) :: (177, 29) :: (177, 28) :: (188, 41) :: (188, 40) :: (188, 39) :: (188, 38) :: (188, 37) :: (188, 36) :: (188, 35) :: (188, 34) :: (188, 33) :: (188, 32) :: (188, 31) :: (188, 30) :: (188, 29) :: (188, 28) :: (188, 27) :: (188, 26) :: (188, 25) :: (188, 24) :: (188, 23) :: (188, 22) :: (188, 21) :: (188, 20) :: (188, 19) :: (188, 18) :: (188, 17) :: (188, 16) :: (188, 15) :: (188, 14) :: (188, 13) :: (188, 12) :: (188, 11) :: (188, 10) :: (188, 9) :: (188, 8) :: (188, 7) :: (188, 6) :: (188, 5) :: (188, 4) :: (188, 3) :: (188, 2) :: (188, 1) :: (188, 0) :: (177, 27) :: (187, 8) :: (187, 7) :: (187, 6) :: (187, 5) :: (187, 4) :: (187, 3) :: (187, 2) :: (187, 1) :: (187, 0) :: (177, 18) :: (177, 10) :: (177, 9) :: (177, 8) :: (177, 7) :: (177, 6) :: (177, 3) :: (177, 2) :: (177, 1) :: (177, 0) :: L
theorem wModel_mem {x : Nat × Nat} {L : List (Nat × Nat)} (h : x ∈ L) : x ∈ wModel L := List.mem_cons_of_mem _ (List.mem_cons_of_mem _ (List.mem_cons_of_mem _ (List.mem_cons_of_mem _ (List.mem_cons_of_mem _ (List.mem_cons_of_mem _ (List.mem_cons_of_mem _ (List.mem_cons_of_mem _ (List.mem_cons_of_mem _ (List.mem_cons_of_mem _ (List.mem_cons_of_mem _ (List.mem_cons_of_mem _ (List.mem_cons_of_mem _ (List.mem_cons_of_mem _ (List.mem_cons_of_mem _ (List.mem_cons_of_mem _ (List.mem_cons_of_mem _ (List.mem_cons_of_mem _ (List.mem_cons_of_mem _ (List.mem_cons_of_mem _ (List.mem_cons_of_mem _ (List.mem_cons_of_mem _ (List.mem_cons_of_mem _ (List.mem_cons_of_mem _ (List.mem_cons_of_mem _ (List.mem_cons_of_mem _ (List.mem_cons_of_mem _ (List.mem_cons_of_mem _ (List.mem_cons_of_mem _ (List.mem_cons_of_mem _ (List.mem_cons_of_mem _ (List.mem_cons_of_mem _ (List.mem_cons_of_mem _ (List.mem_cons_of_mem _ (List.mem_cons_of_mem _ (List.mem_cons_of_mem _ (List.mem_cons_of_mem _ (List.mem_cons_of_mem _ (List.mem_cons_of_mem _ (List.mem_cons_of_mem _ (List.mem_cons_of_mem _ (List.mem_cons_of_mem _ (List.mem_cons_of_mem _ (List.mem_cons_of_mem _ (List.mem_cons_of_mem _ (List.mem_cons_of_mem _ (List.mem_cons_of_mem _ (List.mem_cons_of_mem _ (List.mem_cons_of_mem _ (List.mem_cons_of_mem _ (List.mem_cons_of_mem _ (List.mem_cons_of_mem _ (List.mem_cons_of_mem _ (List.mem_cons_of_mem _ (List.mem_cons_of_mem _ (List.mem_cons_of_mem _ (List.mem_cons_of_mem _ (List.mem_cons_of_mem _ (List.mem_cons_of_mem _ (List.mem_cons_of_mem _ (List.mem_cons_of_mem _ (List.mem_cons_of_mem _ (List.mem_cons_of_mem _ (List.mem_cons_of_mem _ (List.mem_cons_of_mem _ (List.mem_cons_of_mem _ (List.mem_cons_of_mem _ (List.mem_cons_of_mem _ (List.mem_cons_of_mem _ (List.mem_cons_of_mem _ (List.mem_cons_of_mem _ (List.mem_cons_of_mem _ (List.mem_cons_of_mem _ (List.mem_cons_of_mem _ (List.mem_cons_of_mem _ (List.mem_cons_of_mem _ (List.mem_cons_of_mem _ (List.mem_cons_of_mem _ (List.mem_cons_of_mem _ (List.mem_cons_of_mem _ (List.mem_cons_of_mem _ (h)))))))))))))))))))))))))))))))))))))))))))))))))))))))))))))))))))))))))))))))))
theorem c_Model {l : Launch} {G : fp_WG} {L : List (Nat × Nat)}  : fp_OkW l G 1 178 25 2883 kX12_init [rV G 177] L (wModel L) := by
  refine fp_OkW.of (r := 0) (nf := 203) rfl (Nat.le_of_ble_eq_true rfl) rfl rfl ?_
  refine SW.s (fun kk => SP.aload_n (pc' := 1) dX12_init_0 rfl rfl rfl kk) ?_
  refine SW.s (fun kk => SP.objInit (pc' := 4) dX12_init_1 rfl oX12_1 (by decide) (Nat.le_of_ble_eq_true rfl) kk) ?_
  refine SW.s (fun kk => SP.aload_n (pc' := 5) dX12_init_4 rfl rfl rfl kk) ?_
  refine SW.s (fun kk => SP.sipush (pc' := 8) dX12_init_5 rfl rfl kk) ?_
  refine SW.newI (pc' := 10) dX12_init_8 rfl rfl rfl (n' := 179) (cs' := 1) (ss' := 600) rfl rfl rfl (by decide) (by decide) ?_
  refine SW.putR (t := 178) (pc' := 13) dX12_init_10 rfl fX12_7 rfl (by decide) rfl (fun q h => by cases h; rfl) (Or.inr ⟨_, rfl⟩) (by decide +kernel) ?_
  refine SW.s (fun kk => SP.aload_n (pc' := 14) dX12_init_13 rfl rfl rfl kk) ?_
  refine SW.s (fun kk => SP.bipush (pc' := 16) dX12_init_14 rfl rfl kk) ?_
  refine SW.newI (pc' := 18) dX12_init_16 rfl rfl rfl (n' := 180) (cs' := 2) (ss' := 611) rfl rfl rfl (by decide) (by decide) ?_
  refine SW.putR (t := 179) (pc' := 21) dX12_init_18 rfl fX12_13 rfl (by decide) rfl (fun q h => by cases h; rfl) (Or.inr ⟨_, rfl⟩) (by decide +kernel) ?_
  refine SW.s (fun kk => SP.aload_n (pc' := 22) dX12_init_21 rfl rfl rfl kk) ?_
  refine SW.s (fun kk => SP.bipush (pc' := 24) dX12_init_22 rfl rfl kk) ?_
  refine SW.newI (pc' := 26) dX12_init_24 rfl rfl rfl (n' := 181) (cs' := 3) (ss' := 655) rfl rfl rfl (by decide) (by decide) ?_
  refine SW.putR (t := 180) (pc' := 29) dX12_init_26 rfl fX12_16 rfl (by decide) rfl (fun q h => by cases h; rfl) (Or.inr ⟨_, rfl⟩) (by decide +kernel) ?_
  refine SW.s (fun kk => SP.aload_n (pc' := 30) dX12_init_29 rfl rfl rfl kk) ?_
  refine SW.s (fun kk => SP.iconst (pc' := 31) dX12_init_30 rfl kk) ?_
  refine SW.newI (pc' := 33) dX12_init_31 rfl rfl rfl (n' := 182) (cs' := 4) (ss' := 658) rfl rfl rfl (by decide) (by decide) ?_
  refine SW.putR (t := 181) (pc' := 36) dX12_init_33 rfl fX12_19 rfl (by decide) rfl (fun q h => by cases h; rfl) (Or.inr ⟨_, rfl⟩) (by decide +kernel) ?_
  refine SW.s (fun kk => SP.aload_n (pc' := 37) dX12_init_36 rfl rfl rfl kk) ?_
  refine SW.s (fun kk => SP.bipush (pc' := 39) dX12_init_37 rfl rfl kk) ?_
  refine SW.putI (pc' := 42) dX12_init_39 rfl fX12_22 rfl (by decide) rfl (fun q h => by cases h; rfl) (by decide +kernel) ?_
  refine SW.s (fun kk => SP.aload_n (pc' := 43) dX12_init_42 rfl rfl rfl kk) ?_
  refine SW.s (fun kk => SP.bipush (pc' := 45) dX12_init_43 rfl rfl kk) ?_
  refine SW.newI (pc' := 47) dX12_init_45 rfl rfl rfl (n' := 183) (cs' := 5) (ss' := 778) rfl rfl rfl (by decide) (by decide) ?_
  refine SW.putR (t := 182) (pc' := 50) dX12_init_47 rfl fX12_26 rfl (by decide) rfl (fun q h => by cases h; rfl) (Or.inr ⟨_, rfl⟩) (by decide +kernel) ?_
  refine SW.s (fun kk => SP.aload_n (pc' := 51) dX12_init_50 rfl rfl rfl kk) ?_
  refine SW.s (fun kk => SP.bipush (pc' := 53) dX12_init_51 rfl rfl kk) ?_
  refine SW.newI (pc' := 55) dX12_init_53 rfl rfl rfl (n' := 184) (cs' := 6) (ss' := 788) rfl rfl rfl (by decide) (by decide) ?_
  refine SW.putR (t := 183) (pc' := 58) dX12_init_55 rfl fX12_29 rfl (by decide) rfl (fun q h => by cases h; rfl) (Or.inr ⟨_, rfl⟩) (by decide +kernel) ?_
  refine SW.s (fun kk => SP.aload_n (pc' := 59) dX12_init_58 rfl rfl rfl kk) ?_
  refine SW.s (fun kk => SP.bipush (pc' := 61) dX12_init_59 rfl rfl kk) ?_
  refine SW.newI (pc' := 63) dX12_init_61 rfl rfl rfl (n' := 185) (cs' := 7) (ss' := 828) rfl rfl rfl (by decide) (by decide) ?_
  refine SW.putR (t := 184) (pc' := 66) dX12_init_63 rfl fX12_32 rfl (by decide) rfl (fun q h => by cases h; rfl) (Or.inr ⟨_, rfl⟩) (by decide +kernel) ?_
  refine SW.s (fun kk => SP.aload_n (pc' := 67) dX12_init_66 rfl rfl rfl kk) ?_
  refine SW.s (fun kk => SP.iconst (pc' := 68) dX12_init_67 rfl kk) ?_
  refine SW.newI (pc' := 70) dX12_init_68 rfl rfl rfl (n' := 186) (cs' := 8) (ss' := 831) rfl rfl rfl (by decide) (by decide) ?_
  refine SW.putR (t := 185) (pc' := 73) dX12_init_70 rfl fX12_35 rfl (by decide) rfl (fun q h => by cases h; rfl) (Or.inr ⟨_, rfl⟩) (by decide +kernel) ?_
  refine SW.s (fun kk => SP.aload_n (pc' := 74) dX12_init_73 rfl rfl rfl kk) ?_
  refine SW.s (fun kk => SP.sipush (pc' := 77) dX12_init_74 rfl rfl kk) ?_
  refine SW.newI (pc' := 79) dX12_init_77 rfl rfl rfl (n' := 187) (cs' := 9) (ss' := 1311) rfl rfl rfl (by decide) (by decide) ?_
  refine SW.putR (t := 186) (pc' := 82) dX12_init_79 rfl fX12_38 rfl (by decide) rfl (fun q h => by cases h; rfl) (Or.inr ⟨_, rfl⟩) (by decide +kernel) ?_
  refine SW.s (fun kk => SP.aload_n (pc' := 83) dX12_init_82 rfl rfl rfl kk) ?_
  refine SW.s (fun kk => SP.bipush (pc' := 85) dX12_init_83 rfl rfl kk) ?_
  refine SW.newI (pc' := 87) dX12_init_85 rfl rfl rfl (n' := 188) (cs' := 10) (ss' := 1320) rfl rfl rfl (by decide) (by decide) ?_
  refine SW.s (fun kk => SP.dup (pc' := 88) dX12_init_87 rfl rfl kk) ?_
  refine SW.s (fun kk => SP.iconst (pc' := 89) dX12_init_88 rfl kk) ?_
  refine SW.s (fun kk => SP.iconst (pc' := 90) dX12_init_89 rfl kk) ?_
  refine SW.iast (i := 0) (pc' := 91) dX12_init_90 rfl rfl (by decide) rfl (by decide) (by decide +kernel) ?_
  refine SW.s (fun kk => SP.dup (pc' := 92) dX12_init_91 rfl rfl kk) ?_
  refine SW.s (fun kk => SP.iconst (pc' := 93) dX12_init_92 rfl kk) ?_
  refine SW.s (fun kk => SP.iconst (pc' := 94) dX12_init_93 rfl kk) ?_
  refine SW.iast (i := 1) (pc' := 95) dX12_init_94 rfl rfl (by decide) rfl (by decide) (by decide +kernel) ?_
  refine SW.s (fun kk => SP.dup (pc' := 96) dX12_init_95 rfl rfl kk) ?_
  refine SW.s (fun kk => SP.iconst (pc' := 97) dX12_init_96 rfl kk) ?_
  refine SW.s (fun kk => SP.bipush (pc' := 99) dX12_init_97 rfl rfl kk) ?_
  refine SW.iast (i := 2) (pc' := 100) dX12_init_99 rfl rfl (by decide) rfl (by decide) (by decide +kernel) ?_
  refine SW.s (fun kk => SP.dup (pc' := 101) dX12_init_100 rfl rfl kk) ?_
  refine SW.s (fun kk => SP.iconst (pc' := 102) dX12_init_101 rfl kk) ?_
  refine SW.s (fun kk => SP.bipush (pc' := 104) dX12_init_102 rfl rfl kk) ?_
  refine SW.iast (i := 3) (pc' := 105) dX12_init_104 rfl rfl (by decide) rfl (by decide) (by decide +kernel) ?_
  refine SW.s (fun kk => SP.dup (pc' := 106) dX12_init_105 rfl rfl kk) ?_
  refine SW.s (fun kk => SP.iconst (pc' := 107) dX12_init_106 rfl kk) ?_
  refine SW.s (fun kk => SP.bipush (pc' := 109) dX12_init_107 rfl rfl kk) ?_
  refine SW.iast (i := 4) (pc' := 110) dX12_init_109 rfl rfl (by decide) rfl (by decide) (by decide +kernel) ?_
  refine SW.s (fun kk => SP.dup (pc' := 111) dX12_init_110 rfl rfl kk) ?_
  refine SW.s (fun kk => SP.iconst (pc' := 112) dX12_init_111 rfl kk) ?_
  refine SW.s (fun kk => SP.bipush (pc' := 114) dX12_init_112 rfl rfl kk) ?_
  refine SW.iast (i := 5) (pc' := 115) dX12_init_114 rfl rfl (by decide) rfl (by decide) (by decide +kernel) ?_
  refine SW.s (fun kk => SP.dup (pc' := 116) dX12_init_115 rfl rfl kk) ?_
  refine SW.s (fun kk => SP.bipush (pc' := 118) dX12_init_116 rfl rfl kk) ?_
  refine SW.s (fun kk => SP.bipush (pc' := 120) dX12_init_118 rfl rfl kk) ?_
  refine SW.iast (i := 6) (pc' := 121) dX12_init_120 rfl rfl (by decide) rfl (by decide) (by decide +kernel) ?_
  refine SW.s (fun kk => SP.dup (pc' := 122) dX12_init_121 rfl rfl kk) ?_
  refine SW.s (fun kk => SP.bipush (pc' := 124) dX12_init_122 rfl rfl kk) ?_
  refine SW.s (fun kk => SP.bipush (pc' := 126) dX12_init_124 rfl rfl kk) ?_
  refine SW.iast (i := 7) (pc' := 127) dX12_init_126 rfl rfl (by decide) rfl (by decide) (by decide +kernel) ?_
  refine SW.s (fun kk => SP.dup (pc' := 128) dX12_init_127 rfl rfl kk) ?_
  refine SW.s (fun kk => SP.bipush (pc' := 130) dX12_init_128 rfl rfl kk) ?_
  refine SW.s (fun kk => SP.bipush (pc' := 132) dX12_init_130 rfl rfl kk) ?_
  refine SW.iast (i := 8) (pc' := 133) dX12_init_132 rfl rfl (by decide) rfl (by decide) (by decide +kernel) ?_
  refine SW.putR (t := 187) (pc' := 136) dX12_init_133 rfl fX12_41 rfl (by decide) rfl (fun q h => by cases h; rfl) (Or.inr ⟨_, rfl⟩) (by decide +kernel) ?_
  refine SW.s (fun kk => SP.aload_n (pc' := 137) dX12_init_136 rfl rfl rfl kk) ?_
  refine SW.s (fun kk => SP.bipush (pc' := 139) dX12_init_137 rfl rfl kk) ?_
  refine SW.newI (pc' := 141) dX12_init_139 rfl rfl rfl (n' := 189) (cs' := 11) (ss' := 1362) rfl rfl rfl (by decide) (by decide) ?_
  refine SW.s (fun kk => SP.dup (pc' := 142) dX12_init_141 rfl rfl kk) ?_
  refine SW.s (fun kk => SP.iconst (pc' := 143) dX12_init_142 rfl kk) ?_
  refine SW.s (fun kk => SP.bipush (pc' := 145) dX12_init_143 rfl rfl kk) ?_
  refine SW.iast (i := 0) (pc' := 146) dX12_init_145 rfl rfl (by decide) rfl (by decide) (by decide +kernel) ?_
  refine SW.s (fun kk => SP.dup (pc' := 147) dX12_init_146 rfl rfl kk) ?_
  refine SW.s (fun kk => SP.iconst (pc' := 148) dX12_init_147 rfl kk) ?_
  refine SW.s (fun kk => SP.bipush (pc' := 150) dX12_init_148 rfl rfl kk) ?_
  refine SW.iast (i := 1) (pc' := 151) dX12_init_150 rfl rfl (by decide) rfl (by decide) (by decide +kernel) ?_
  refine SW.s (fun kk => SP.dup (pc' := 152) dX12_init_151 rfl rfl kk) ?_
  refine SW.s (fun kk => SP.iconst (pc' := 153) dX12_init_152 rfl kk) ?_
  refine SW.s (fun kk => SP.bipush (pc' := 155) dX12_init_153 rfl rfl kk) ?_
  refine SW.iast (i := 2) (pc' := 156) dX12_init_155 rfl rfl (by decide) rfl (by decide) (by decide +kernel) ?_
  refine SW.s (fun kk => SP.dup (pc' := 157) dX12_init_156 rfl rfl kk) ?_
  refine SW.s (fun kk => SP.iconst (pc' := 158) dX12_init_157 rfl kk) ?_
  refine SW.s (fun kk => SP.bipush (pc' := 160) dX12_init_158 rfl rfl kk) ?_
  refine SW.iast (i := 3) (pc' := 161) dX12_init_160 rfl rfl (by decide) rfl (by decide) (by decide +kernel) ?_
  refine SW.s (fun kk => SP.dup (pc' := 162) dX12_init_161 rfl rfl kk) ?_
  refine SW.s (fun kk => SP.iconst (pc' := 163) dX12_init_162 rfl kk) ?_
  refine SW.s (fun kk => SP.bipush (pc' := 165) dX12_init_163 rfl rfl kk) ?_
  refine SW.iast (i := 4) (pc' := 166) dX12_init_165 rfl rfl (by decide) rfl (by decide) (by decide +kernel) ?_
  refine SW.s (fun kk => SP.dup (pc' := 167) dX12_init_166 rfl rfl kk) ?_
  refine SW.s (fun kk => SP.iconst (pc' := 168) dX12_init_167 rfl kk) ?_
  refine SW.s (fun kk => SP.bipush (pc' := 170) dX12_init_168 rfl rfl kk) ?_
  refine SW.iast (i := 5) (pc' := 171) dX12_init_170 rfl rfl (by decide) rfl (by decide) (by decide +kernel) ?_
  refine SW.s (fun kk => SP.dup (pc' := 172) dX12_init_171 rfl rfl kk) ?_
  refine SW.s (fun kk => SP.bipush (pc' := 174) dX12_init_172 rfl rfl kk) ?_
  refine SW.s (fun kk => SP.bipush (pc' := 176) dX12_init_174 rfl rfl kk) ?_
  refine SW.iast (i := 6) (pc' := 177) dX12_init_176 rfl rfl (by decide) rfl (by decide) (by decide +kernel) ?_
  refine SW.s (fun kk => SP.dup (pc' := 178) dX12_init_177 rfl rfl kk) ?_
  refine SW.s (fun kk => SP.bipush (pc' := 180) dX12_init_178 rfl rfl kk) ?_
  refine SW.s (fun kk => SP.bipush (pc' := 182) dX12_init_180 rfl rfl kk) ?_
  refine SW.iast (i := 7) (pc' := 183) dX12_init_182 rfl rfl (by decide) rfl (by decide) (by decide +kernel) ?_
  refine SW.s (fun kk => SP.dup (pc' := 184) dX12_init_183 rfl rfl kk) ?_
  refine SW.s (fun kk => SP.bipush (pc' := 186) dX12_init_184 rfl rfl kk) ?_
  refine SW.s (fun kk => SP.bipush (pc' := 188) dX12_init_186 rfl rfl kk) ?_
  refine SW.iast (i := 8) (pc' := 189) dX12_init_188 rfl rfl (by decide) rfl (by decide) (by decide +kernel) ?_
  refine SW.s (fun kk => SP.dup (pc' := 190) dX12_init_189 rfl rfl kk) ?_
  refine SW.s (fun kk => SP.bipush (pc' := 192) dX12_init_190 rfl rfl kk) ?_
  refine SW.s (fun kk => SP.bipush (pc' := 194) dX12_init_192 rfl rfl kk) ?_
  refine SW.iast (i := 9) (pc' := 195) dX12_init_194 rfl rfl (by decide) rfl (by decide) (by decide +kernel) ?_
  refine SW.s (fun kk => SP.dup (pc' := 196) dX12_init_195 rfl rfl kk) ?_
  refine SW.s (fun kk => SP.bipush (pc' := 198) dX12_init_196 rfl rfl kk) ?_
  refine SW.s (fun kk => SP.bipush (pc' := 200) dX12_init_198 rfl rfl kk) ?_
  refine SW.iast (i := 10) (pc' := 201) dX12_init_200 rfl rfl (by decide) rfl (by decide) (by decide +kernel) ?_
  refine SW.s (fun kk => SP.dup (pc' := 202) dX12_init_201 rfl rfl kk) ?_
  refine SW.s (fun kk => SP.bipush (pc' := 204) dX12_init_202 rfl rfl kk) ?_
  refine SW.s (fun kk => SP.bipush (pc' := 206) dX12_init_204 rfl rfl kk) ?_
  refine SW.iast (i := 11) (pc' := 207) dX12_init_206 rfl rfl (by decide) rfl (by decide) (by decide +kernel) ?_
  refine SW.s (fun kk => SP.dup (pc' := 208) dX12_init_207 rfl rfl kk) ?_
  refine SW.s (fun kk => SP.bipush (pc' := 210) dX12_init_208 rfl rfl kk) ?_
  refine SW.s (fun kk => SP.bipush (pc' := 212) dX12_init_210 rfl rfl kk) ?_
  refine SW.iast (i := 12) (pc' := 213) dX12_init_212 rfl rfl (by decide) rfl (by decide) (by decide +kernel) ?_
  refine SW.s (fun kk => SP.dup (pc' := 214) dX12_init_213 rfl rfl kk) ?_
  refine SW.s (fun kk => SP.bipush (pc' := 216) dX12_init_214 rfl rfl kk) ?_
  refine SW.s (fun kk => SP.bipush (pc' := 218) dX12_init_216 rfl rfl kk) ?_
  refine SW.iast (i := 13) (pc' := 219) dX12_init_218 rfl rfl (by decide) rfl (by decide) (by decide +kernel) ?_
  refine SW.s (fun kk => SP.dup (pc' := 220) dX12_init_219 rfl rfl kk) ?_
  refine SW.s (fun kk => SP.bipush (pc' := 222) dX12_init_220 rfl rfl kk) ?_
  refine SW.s (fun kk => SP.bipush (pc' := 224) dX12_init_222 rfl rfl kk) ?_
  refine SW.iast (i := 14) (pc' := 225) dX12_init_224 rfl rfl (by decide) rfl (by decide) (by decide +kernel) ?_
  refine SW.s (fun kk => SP.dup (pc' := 226) dX12_init_225 rfl rfl kk) ?_
  refine SW.s (fun kk => SP.bipush (pc' := 228) dX12_init_226 rfl rfl kk) ?_
  refine SW.s (fun kk => SP.bipush (pc' := 230) dX12_init_228 rfl rfl kk) ?_
  refine SW.iast (i := 15) (pc' := 231) dX12_init_230 rfl rfl (by decide) rfl (by decide) (by decide +kernel) ?_
  refine SW.s (fun kk => SP.dup (pc' := 232) dX12_init_231 rfl rfl kk) ?_
  refine SW.s (fun kk => SP.bipush (pc' := 234) dX12_init_232 rfl rfl kk) ?_
  refine SW.s (fun kk => SP.bipush (pc' := 236) dX12_init_234 rfl rfl kk) ?_
  refine SW.iast (i := 16) (pc' := 237) dX12_init_236 rfl rfl (by decide) rfl (by decide) (by decide +kernel) ?_
  refine SW.s (fun kk => SP.dup (pc' := 238) dX12_init_237 rfl rfl kk) ?_
  refine SW.s (fun kk => SP.bipush (pc' := 240) dX12_init_238 rfl rfl kk) ?_
  refine SW.s (fun kk => SP.bipush (pc' := 242) dX12_init_240 rfl rfl kk) ?_
  refine SW.iast (i := 17) (pc' := 243) dX12_init_242 rfl rfl (by decide) rfl (by decide) (by decide +kernel) ?_
  refine SW.s (fun kk => SP.dup (pc' := 244) dX12_init_243 rfl rfl kk) ?_
  refine SW.s (fun kk => SP.bipush (pc' := 246) dX12_init_244 rfl rfl kk) ?_
  refine SW.s (fun kk => SP.bipush (pc' := 248) dX12_init_246 rfl rfl kk) ?_
  refine SW.iast (i := 18) (pc' := 249) dX12_init_248 rfl rfl (by decide) rfl (by decide) (by decide +kernel) ?_
  refine SW.s (fun kk => SP.dup (pc' := 250) dX12_init_249 rfl rfl kk) ?_
  refine SW.s (fun kk => SP.bipush (pc' := 252) dX12_init_250 rfl rfl kk) ?_
  refine SW.s (fun kk => SP.bipush (pc' := 254) dX12_init_252 rfl rfl kk) ?_
  refine SW.iast (i := 19) (pc' := 255) dX12_init_254 rfl rfl (by decide) rfl (by decide) (by decide +kernel) ?_
  refine SW.s (fun kk => SP.dup (pc' := 256) dX12_init_255 rfl rfl kk) ?_
  refine SW.s (fun kk => SP.bipush (pc' := 258) dX12_init_256 rfl rfl kk) ?_
  refine SW.s (fun kk => SP.bipush (pc' := 260) dX12_init_258 rfl rfl kk) ?_
  refine SW.iast (i := 20) (pc' := 261) dX12_init_260 rfl rfl (by decide) rfl (by decide) (by decide +kernel) ?_
  refine SW.s (fun kk => SP.dup (pc' := 262) dX12_init_261 rfl rfl kk) ?_
  refine SW.s (fun kk => SP.bipush (pc' := 264) dX12_init_262 rfl rfl kk) ?_
  refine SW.s (fun kk => SP.bipush (pc' := 266) dX12_init_264 rfl rfl kk) ?_
  refine SW.iast (i := 21) (pc' := 267) dX12_init_266 rfl rfl (by decide) rfl (by decide) (by decide +kernel) ?_
  refine SW.s (fun kk => SP.dup (pc' := 268) dX12_init_267 rfl rfl kk) ?_
  refine SW.s (fun kk => SP.bipush (pc' := 270) dX12_init_268 rfl rfl kk) ?_
  refine SW.s (fun kk => SP.bipush (pc' := 272) dX12_init_270 rfl rfl kk) ?_
  refine SW.iast (i := 22) (pc' := 273) dX12_init_272 rfl rfl (by decide) rfl (by decide) (by decide +kernel) ?_
  refine SW.s (fun kk => SP.dup (pc' := 274) dX12_init_273 rfl rfl kk) ?_
  refine SW.s (fun kk => SP.bipush (pc' := 276) dX12_init_274 rfl rfl kk) ?_
  refine SW.s (fun kk => SP.bipush (pc' := 278) dX12_init_276 rfl rfl kk) ?_
  refine SW.iast (i := 23) (pc' := 279) dX12_init_278 rfl rfl (by decide) rfl (by decide) (by decide +kernel) ?_
  refine SW.s (fun kk => SP.dup (pc' := 280) dX12_init_279 rfl rfl kk) ?_
  refine SW.s (fun kk => SP.bipush (pc' := 282) dX12_init_280 rfl rfl kk) ?_
  refine SW.s (fun kk => SP.bipush (pc' := 284) dX12_init_282 rfl rfl kk) ?_
  refine SW.iast (i := 24) (pc' := 285) dX12_init_284 rfl rfl (by decide) rfl (by decide) (by decide +kernel) ?_
  refine SW.s (fun kk => SP.dup (pc' := 286) dX12_init_285 rfl rfl kk) ?_
  refine SW.s (fun kk => SP.bipush (pc' := 288) dX12_init_286 rfl rfl kk) ?_
  refine SW.s (fun kk => SP.bipush (pc' := 290) dX12_init_288 rfl rfl kk) ?_
  refine SW.iast (i := 25) (pc' := 291) dX12_init_290 rfl rfl (by decide) rfl (by decide) (by decide +kernel) ?_
  refine SW.s (fun kk => SP.dup (pc' := 292) dX12_init_291 rfl rfl kk) ?_
  refine SW.s (fun kk => SP.bipush (pc' := 294) dX12_init_292 rfl rfl kk) ?_
  refine SW.s (fun kk => SP.bipush (pc' := 296) dX12_init_294 rfl rfl kk) ?_
  refine SW.iast (i := 26) (pc' := 297) dX12_init_296 rfl rfl (by decide) rfl (by decide) (by decide +kernel) ?_
  refine SW.s (fun kk => SP.dup (pc' := 298) dX12_init_297 rfl rfl kk) ?_
  refine SW.s (fun kk => SP.bipush (pc' := 300) dX12_init_298 rfl rfl kk) ?_
  refine SW.s (fun kk => SP.bipush (pc' := 302) dX12_init_300 rfl rfl kk) ?_
  refine SW.iast (i := 27) (pc' := 303) dX12_init_302 rfl rfl (by decide) rfl (by decide) (by decide +kernel) ?_
  refine SW.s (fun kk => SP.dup (pc' := 304) dX12_init_303 rfl rfl kk) ?_
  refine SW.s (fun kk => SP.bipush (pc' := 306) dX12_init_304 rfl rfl kk) ?_
  refine SW.s (fun kk => SP.bipush (pc' := 308) dX12_init_306 rfl rfl kk) ?_
  refine SW.iast (i := 28) (pc' := 309) dX12_init_308 rfl rfl (by decide) rfl (by decide) (by decide +kernel) ?_
  refine SW.s (fun kk => SP.dup (pc' := 310) dX12_init_309 rfl rfl kk) ?_
  refine SW.s (fun kk => SP.bipush (pc' := 312) dX12_init_310 rfl rfl kk) ?_
  refine SW.s (fun kk => SP.bipush (pc' := 314) dX12_init_312 rfl rfl kk) ?_
  refine SW.iast (i := 29) (pc' := 315) dX12_init_314 rfl rfl (by decide) rfl (by decide) (by decide +kernel) ?_
  refine SW.s (fun kk => SP.dup (pc' := 316) dX12_init_315 rfl rfl kk) ?_
  refine SW.s (fun kk => SP.bipush (pc' := 318) dX12_init_316 rfl rfl kk) ?_
  refine SW.s (fun kk => SP.bipush (pc' := 320) dX12_init_318 rfl rfl kk) ?_
  refine SW.iast (i := 30) (pc' := 321) dX12_init_320 rfl rfl (by decide) rfl (by decide) (by decide +kernel) ?_
  refine SW.s (fun kk => SP.dup (pc' := 322) dX12_init_321 rfl rfl kk) ?_
  refine SW.s (fun kk => SP.bipush (pc' := 324) dX12_init_322 rfl rfl kk) ?_
  refine SW.s (fun kk => SP.bipush (pc' := 326) dX12_init_324 rfl rfl kk) ?_
  refine SW.iast (i := 31) (pc' := 327) dX12_init_326 rfl rfl (by decide) rfl (by decide) (by decide +kernel) ?_
  refine SW.s (fun kk => SP.dup (pc' := 328) dX12_init_327 rfl rfl kk) ?_
  refine SW.s (fun kk => SP.bipush (pc' := 330) dX12_init_328 rfl rfl kk) ?_
  refine SW.s (fun kk => SP.bipush (pc' := 332) dX12_init_330 rfl rfl kk) ?_
  refine SW.iast (i := 32) (pc' := 333) dX12_init_332 rfl rfl (by decide) rfl (by decide) (by decide +kernel) ?_
  refine SW.s (fun kk => SP.dup (pc' := 334) dX12_init_333 rfl rfl kk) ?_
  refine SW.s (fun kk => SP.bipush (pc' := 336) dX12_init_334 rfl rfl kk) ?_
  refine SW.s (fun kk => SP.bipush (pc' := 338) dX12_init_336 rfl rfl kk) ?_
  refine SW.iast (i := 33) (pc' := 339) dX12_init_338 rfl rfl (by decide) rfl (by decide) (by decide +kernel) ?_
  refine SW.s (fun kk => SP.dup (pc' := 340) dX12_init_339 rfl rfl kk) ?_
  refine SW.s (fun kk => SP.bipush (pc' := 342) dX12_init_340 rfl rfl kk) ?_
  refine SW.s (fun kk => SP.bipush (pc' := 344) dX12_init_342 rfl rfl kk) ?_
  refine SW.iast (i := 34) (pc' := 345) dX12_init_344 rfl rfl (by decide) rfl (by decide) (by decide +kernel) ?_
  refine SW.s (fun kk => SP.dup (pc' := 346) dX12_init_345 rfl rfl kk) ?_
  refine SW.s (fun kk => SP.bipush (pc' := 348) dX12_init_346 rfl rfl kk) ?_
  refine SW.s (fun kk => SP.bipush (pc' := 350) dX12_init_348 rfl rfl kk) ?_
  refine SW.iast (i := 35) (pc' := 351) dX12_init_350 rfl rfl (by decide) rfl (by decide) (by decide +kernel) ?_
  refine SW.s (fun kk => SP.dup (pc' := 352) dX12_init_351 rfl rfl kk) ?_
  refine SW.s (fun kk => SP.bipush (pc' := 354) dX12_init_352 rfl rfl kk) ?_
  refine SW.s (fun kk => SP.bipush (pc' := 356) dX12_init_354 rfl rfl kk) ?_
  refine SW.iast (i := 36) (pc' := 357) dX12_init_356 rfl rfl (by decide) rfl (by decide) (by decide +kernel) ?_
  refine SW.s (fun kk => SP.dup (pc' := 358) dX12_init_357 rfl rfl kk) ?_
  refine SW.s (fun kk => SP.bipush (pc' := 360) dX12_init_358 rfl rfl kk) ?_
  refine SW.s (fun kk => SP.bipush (pc' := 362) dX12_init_360 rfl rfl kk) ?_
  refine SW.iast (i := 37) (pc' := 363) dX12_init_362 rfl rfl (by decide) rfl (by decide) (by decide +kernel) ?_
  refine SW.s (fun kk => SP.dup (pc' := 364) dX12_init_363 rfl rfl kk) ?_
  refine SW.s (fun kk => SP.bipush (pc' := 366) dX12_init_364 rfl rfl kk) ?_
  refine SW.s (fun kk => SP.bipush (pc' := 368) dX12_init_366 rfl rfl kk) ?_
  refine SW.iast (i := 38) (pc' := 369) dX12_init_368 rfl rfl (by decide) rfl (by decide) (by decide +kernel) ?_
  refine SW.s (fun kk => SP.dup (pc' := 370) dX12_init_369 rfl rfl kk) ?_
  refine SW.s (fun kk => SP.bipush (pc' := 372) dX12_init_370 rfl rfl kk) ?_
  refine SW.s (fun kk => SP.bipush (pc' := 374) dX12_init_372 rfl rfl kk) ?_
  refine SW.iast (i := 39) (pc' := 375) dX12_init_374 rfl rfl (by decide) rfl (by decide) (by decide +kernel) ?_
  refine SW.s (fun kk => SP.dup (pc' := 376) dX12_init_375 rfl rfl kk) ?_
  refine SW.s (fun kk => SP.bipush (pc' := 378) dX12_init_376 rfl rfl kk) ?_
  refine SW.s (fun kk => SP.bipush (pc' := 380) dX12_init_378 rfl rfl kk) ?_
  refine SW.iast (i := 40) (pc' := 381) dX12_init_380 rfl rfl (by decide) rfl (by decide) (by decide +kernel) ?_
  refine SW.s (fun kk => SP.dup (pc' := 382) dX12_init_381 rfl rfl kk) ?_
  refine SW.s (fun kk => SP.bipush (pc' := 384) dX12_init_382 rfl rfl kk) ?_
  refine SW.s (fun kk => SP.bipush (pc' := 386) dX12_init_384 rfl rfl kk) ?_
  refine SW.iast (i := 41) (pc' := 387) dX12_init_386 rfl rfl (by decide) rfl (by decide) (by decide +kernel) ?_
  refine SW.putR (t := 188) (pc' := 390) dX12_init_387 rfl fX12_44 rfl (by decide) rfl (fun q h => by cases h; rfl) (Or.inr ⟨_, rfl⟩) (by decide +kernel) ?_
  refine SW.s (fun kk => SP.aload_n (pc' := 391) dX12_init_390 rfl rfl rfl kk) ?_
  refine SW.s (fun kk => SP.sipush (pc' := 394) dX12_init_391 rfl rfl kk) ?_
  refine SW.newI (pc' := 396) dX12_init_394 rfl rfl rfl (n' := 190) (cs' := 12) (ss' := 1922) rfl rfl rfl (by decide) (by decide) ?_
  refine SW.putR (t := 189) (pc' := 399) dX12_init_396 rfl fX12_47 rfl (by decide) rfl (fun q h => by cases h; rfl) (Or.inr ⟨_, rfl⟩) (by decide +kernel) ?_
  refine SW.s (fun kk => SP.aload_n (pc' := 400) dX12_init_399 rfl rfl rfl kk) ?_
  refine SW.s (fun kk => SP.bipush (pc' := 402) dX12_init_400 rfl rfl kk) ?_
  refine SW.newI (pc' := 404) dX12_init_402 rfl rfl rfl (n' := 191) (cs' := 13) (ss' := 1934) rfl rfl rfl (by decide) (by decide) ?_
  refine SW.putR (t := 190) (pc' := 407) dX12_init_404 rfl fX12_50 rfl (by decide) rfl (fun q h => by cases h; rfl) (Or.inr ⟨_, rfl⟩) (by decide +kernel) ?_
  refine SW.s (fun kk => SP.aload_n (pc' := 408) dX12_init_407 rfl rfl rfl kk) ?_
  refine SW.s (fun kk => SP.bipush (pc' := 410) dX12_init_408 rfl rfl kk) ?_
  refine SW.newI (pc' := 412) dX12_init_410 rfl rfl rfl (n' := 192) (cs' := 14) (ss' := 1946) rfl rfl rfl (by decide) (by decide) ?_
  refine SW.putR (t := 191) (pc' := 415) dX12_init_412 rfl fX12_53 rfl (by decide) rfl (fun q h => by cases h; rfl) (Or.inr ⟨_, rfl⟩) (by decide +kernel) ?_
  refine SW.s (fun kk => SP.aload_n (pc' := 416) dX12_init_415 rfl rfl rfl kk) ?_
  refine SW.s (fun kk => SP.bipush (pc' := 418) dX12_init_416 rfl rfl kk) ?_
  refine SW.newJ (pc' := 420) dX12_init_418 rfl rfl rfl (n' := 193) (cs' := 15) (ss' := 1956) rfl rfl rfl (by decide) (by decide) ?_
  refine SW.putR (t := 192) (pc' := 423) dX12_init_420 rfl fX12_56 rfl (by decide) rfl (fun q h => by cases h; rfl) (Or.inr ⟨_, rfl⟩) (by decide +kernel) ?_
  refine SW.s (fun kk => SP.aload_n (pc' := 424) dX12_init_423 rfl rfl rfl kk) ?_
  refine SW.s (fun kk => SP.sipush (pc' := 427) dX12_init_424 rfl rfl kk) ?_
  refine SW.newI (pc' := 429) dX12_init_427 rfl rfl rfl (n' := 194) (cs' := 16) (ss' := 2685) rfl rfl rfl (by decide) (by decide) ?_
  refine SW.putR (t := 193) (pc' := 432) dX12_init_429 rfl fX12_60 rfl (by decide) rfl (fun q h => by cases h; rfl) (Or.inr ⟨_, rfl⟩) (by decide +kernel) ?_
  refine SW.s (fun kk => SP.aload_n (pc' := 433) dX12_init_432 rfl rfl rfl kk) ?_
  refine SW.s (fun kk => SP.bipush (pc' := 435) dX12_init_433 rfl rfl kk) ?_
  refine SW.newI (pc' := 437) dX12_init_435 rfl rfl rfl (n' := 195) (cs' := 17) (ss' := 2693) rfl rfl rfl (by decide) (by decide) ?_
  refine SW.putR (t := 194) (pc' := 440) dX12_init_437 rfl fX12_63 rfl (by decide) rfl (fun q h => by cases h; rfl) (Or.inr ⟨_, rfl⟩) (by decide +kernel) ?_
  refine SW.s (fun kk => SP.aload_n (pc' := 441) dX12_init_440 rfl rfl rfl kk) ?_
  refine SW.s (fun kk => SP.bipush (pc' := 443) dX12_init_441 rfl rfl kk) ?_
  refine SW.newI (pc' := 445) dX12_init_443 rfl rfl rfl (n' := 196) (cs' := 18) (ss' := 2701) rfl rfl rfl (by decide) (by decide) ?_
  refine SW.putR (t := 195) (pc' := 448) dX12_init_445 rfl fX12_66 rfl (by decide) rfl (fun q h => by cases h; rfl) (Or.inr ⟨_, rfl⟩) (by decide +kernel) ?_
  refine SW.s (fun kk => SP.aload_n (pc' := 449) dX12_init_448 rfl rfl rfl kk) ?_
  refine SW.s (fun kk => SP.iconst (pc' := 450) dX12_init_449 rfl kk) ?_
  refine SW.newI (pc' := 452) dX12_init_450 rfl rfl rfl (n' := 197) (cs' := 19) (ss' := 2705) rfl rfl rfl (by decide) (by decide) ?_
  refine SW.putR (t := 196) (pc' := 455) dX12_init_452 rfl fX12_69 rfl (by decide) rfl (fun q h => by cases h; rfl) (Or.inr ⟨_, rfl⟩) (by decide +kernel) ?_
  refine SW.s (fun kk => SP.aload_n (pc' := 456) dX12_init_455 rfl rfl rfl kk) ?_
  refine SW.s (fun kk => SP.iconst (pc' := 457) dX12_init_456 rfl kk) ?_
  refine SW.newI (pc' := 459) dX12_init_457 rfl rfl rfl (n' := 198) (cs' := 20) (ss' := 2709) rfl rfl rfl (by decide) (by decide) ?_
  refine SW.putR (t := 197) (pc' := 462) dX12_init_459 rfl fX12_72 rfl (by decide) rfl (fun q h => by cases h; rfl) (Or.inr ⟨_, rfl⟩) (by decide +kernel) ?_
  refine SW.s (fun kk => SP.aload_n (pc' := 463) dX12_init_462 rfl rfl rfl kk) ?_
  refine SW.s (fun kk => SP.iconst (pc' := 464) dX12_init_463 rfl kk) ?_
  refine SW.newI (pc' := 466) dX12_init_464 rfl rfl rfl (n' := 199) (cs' := 21) (ss' := 2713) rfl rfl rfl (by decide) (by decide) ?_
  refine SW.putR (t := 198) (pc' := 469) dX12_init_466 rfl fX12_75 rfl (by decide) rfl (fun q h => by cases h; rfl) (Or.inr ⟨_, rfl⟩) (by decide +kernel) ?_
  refine SW.s (fun kk => SP.aload_n (pc' := 470) dX12_init_469 rfl rfl rfl kk) ?_
  refine SW.s (fun kk => SP.iconst (pc' := 471) dX12_init_470 rfl kk) ?_
  refine SW.newZ (pc' := 473) dX12_init_471 rfl rfl rfl (n' := 200) (cs' := 22) (ss' := 2715) rfl rfl rfl (by decide) (by decide) ?_
  refine SW.putR (t := 199) (pc' := 476) dX12_init_473 rfl fX12_78 rfl (by decide) rfl (fun q h => by cases h; rfl) (Or.inr ⟨_, rfl⟩) (by decide +kernel) ?_
  refine SW.s (fun kk => SP.aload_n (pc' := 477) dX12_init_476 rfl rfl rfl kk) ?_
  refine SW.s (fun kk => SP.iconst (pc' := 478) dX12_init_477 rfl kk) ?_
  refine SW.newI (pc' := 480) dX12_init_478 rfl rfl rfl (n' := 201) (cs' := 23) (ss' := 2719) rfl rfl rfl (by decide) (by decide) ?_
  refine SW.s (fun kk => SP.dup (pc' := 481) dX12_init_480 rfl rfl kk) ?_
  refine SW.s (fun kk => SP.iconst (pc' := 482) dX12_init_481 rfl kk) ?_
  refine SW.s (fun kk => SP.bipush (pc' := 484) dX12_init_482 rfl rfl kk) ?_
  refine SW.iast (i := 0) (pc' := 485) dX12_init_484 rfl rfl (by decide) rfl (by decide) (by decide +kernel) ?_
  refine SW.s (fun kk => SP.dup (pc' := 486) dX12_init_485 rfl rfl kk) ?_
  refine SW.s (fun kk => SP.iconst (pc' := 487) dX12_init_486 rfl kk) ?_
  refine SW.s (fun kk => SP.bipush (pc' := 489) dX12_init_487 rfl rfl kk) ?_
  refine SW.iast (i := 1) (pc' := 490) dX12_init_489 rfl rfl (by decide) rfl (by decide) (by decide +kernel) ?_
  refine SW.s (fun kk => SP.dup (pc' := 491) dX12_init_490 rfl rfl kk) ?_
  refine SW.s (fun kk => SP.iconst (pc' := 492) dX12_init_491 rfl kk) ?_
  refine SW.s (fun kk => SP.bipush (pc' := 494) dX12_init_492 rfl rfl kk) ?_
  refine SW.iast (i := 2) (pc' := 495) dX12_init_494 rfl rfl (by decide) rfl (by decide) (by decide +kernel) ?_
  refine SW.s (fun kk => SP.dup (pc' := 496) dX12_init_495 rfl rfl kk) ?_
  refine SW.s (fun kk => SP.iconst (pc' := 497) dX12_init_496 rfl kk) ?_
  refine SW.s (fun kk => SP.bipush (pc' := 499) dX12_init_497 rfl rfl kk) ?_
  refine SW.iast (i := 3) (pc' := 500) dX12_init_499 rfl rfl (by decide) rfl (by decide) (by decide +kernel) ?_
  refine SW.putR (t := 200) (pc' := 503) dX12_init_500 rfl fX12_82 rfl (by decide) rfl (fun q h => by cases h; rfl) (Or.inr ⟨_, rfl⟩) (by decide +kernel) ?_
  refine SW.s (fun kk => SP.aload_n (pc' := 504) dX12_init_503 rfl rfl rfl kk) ?_
  refine SW.s (fun kk => SP.iconst (pc' := 505) dX12_init_504 rfl kk) ?_
  refine SW.newI (pc' := 507) dX12_init_505 rfl rfl rfl (n' := 202) (cs' := 24) (ss' := 2723) rfl rfl rfl (by decide) (by decide) ?_
  refine SW.putR (t := 201) (pc' := 510) dX12_init_507 rfl fX12_85 rfl (by decide) rfl (fun q h => by cases h; rfl) (Or.inr ⟨_, rfl⟩) (by decide +kernel) ?_
  refine SW.s (fun kk => SP.aload_n (pc' := 511) dX12_init_510 rfl rfl rfl kk) ?_
  refine SW.s (fun kk => SP.sipush (pc' := 514) dX12_init_511 rfl rfl kk) ?_
  refine SW.newI (pc' := 516) dX12_init_514 rfl rfl rfl (n' := 203) (cs' := 25) (ss' := 2883) rfl rfl rfl (by decide) (by decide) ?_
  refine SW.putR (t := 202) (pc' := 519) dX12_init_516 rfl fX12_88 rfl (by decide) rfl (fun q h => by cases h; rfl) (Or.inr ⟨_, rfl⟩) (by decide +kernel) ?_
  exact SW.ret dX12_init_519 rfl
