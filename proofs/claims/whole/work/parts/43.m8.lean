set_option maxHeartbeats 4000000 in
set_option maxRecDepth 100000 in
theorem c_copyRul (Mq : zM) (k k2 : Nat) (n em : Nat) (gn al_ it pt tg bd fr af fb : Nat → Nat) (hR : Seg Mq k (rulL k (n, gn, al_, it, pt, tg, bd, em, fr, af, fb))) (n2 em2 : Nat) (gn2 al2 it2 pt2 tg2 bd2 fr2 af2 fb2 : Nat → Nat) (hR2 : Seg Mq k2 (rulL k2 (n2, gn2, al2, it2, pt2, tg2, bd2, em2, fr2, af2, fb2))) (hd : k + 9 < k2 ∨ k2 + 9 < k) : Zm 1 zm_Rules_copyFrom [.ref k, .ref k2] Mq (fun r9 M1 => r9 = none ∧ Seg M1 k (rulL k (n2, gn2, al2, it2, pt2, tg2, bd2, em2, fr2, af2, fb2)) ∧ Sm Mq M1 [k, k + 1, k + 2, k + 3, k + 4, k + 5, k + 6, k + 7, k + 8, k + 9]) := by
  show Zw 1 zm_Rules_copyFrom 0 [some (.ref k), some (.ref k2)] [] Mq _
  refine zw_n 2 rfl ?_
  refine zw_get (v := .int (nI n2)) rfl (hR2.get 0 rfl) rfl ?_
  refine zw_put rfl (hR.get 0 rfl) (rfl) (Nat.le_of_ble_eq_true rfl) ?_
  generalize ez466 : List.set Mq k _ = Mz465
  refine zw_n 2 rfl ?_
  refine zw_get (v := .int (nI em2)) rfl (zat_set ez466 (by omega) (hR2.get 0 rfl)) rfl ?_
  refine zw_put rfl (zat_self ez466 (hR.get 0 rfl)) (rfl) (Nat.le_of_ble_eq_true rfl) ?_
  generalize ez468 : List.set Mz465 k _ = Mz467
  refine zw_n 1 rfl ?_
  refine zw_get (v := .ref (k2 + 1)) rfl (zat_set ez468 (by omega) (zat_set ez466 (by omega) (hR2.get 0 rfl))) rfl ?_
  refine zw_n 2 rfl ?_
  refine zw_get (v := .ref (k + 1)) rfl (zat_self ez468 (zat_self ez466 (hR.get 0 rfl))) rfl ?_
  refine zw_n 2 rfl ?_
  refine zw_get (v := .ref (k + 1)) rfl (zat_self ez468 (zat_self ez466 (hR.get 0 rfl))) rfl ?_
  refine zw_alen rfl (zat_set ez468 (by omega) (zat_set ez466 (by omega) (hR.get 1 rfl))) rfl ?_
  refine zw_cpyi (n := 8) (sp := 0) (dp := 0) rfl (by decide) (zat_set ez468 (by omega) (zat_set ez466 (by omega) (hR2.get 1 rfl))) (zat_set ez468 (by omega) (zat_set ez466 (by omega) (hR.get 1 rfl))) rfl rfl rfl (by omega) (by omega) rfl ?_
  rw [z_cp_all]
  generalize ez470 : List.set Mz467 (k + 1) _ = Mz469
  refine zw_n 1 rfl ?_
  refine zw_get (v := .ref (k2 + 2)) rfl (zat_set ez470 (by omega) (zat_set ez468 (by omega) (zat_set ez466 (by omega) (hR2.get 0 rfl)))) rfl ?_
  refine zw_n 2 rfl ?_
  refine zw_get (v := .ref (k + 2)) rfl (zat_set ez470 (by omega) (zat_self ez468 (zat_self ez466 (hR.get 0 rfl)))) rfl ?_
  refine zw_n 2 rfl ?_
  refine zw_get (v := .ref (k + 2)) rfl (zat_set ez470 (by omega) (zat_self ez468 (zat_self ez466 (hR.get 0 rfl)))) rfl ?_
  refine zw_alen rfl (zat_set ez470 (by omega) (zat_set ez468 (by omega) (zat_set ez466 (by omega) (hR.get 2 rfl)))) rfl ?_
  refine zw_cpyi (n := 8) (sp := 0) (dp := 0) rfl (by decide) (zat_set ez470 (by omega) (zat_set ez468 (by omega) (zat_set ez466 (by omega) (hR2.get 2 rfl)))) (zat_set ez470 (by omega) (zat_set ez468 (by omega) (zat_set ez466 (by omega) (hR.get 2 rfl)))) rfl rfl rfl (by omega) (by omega) rfl ?_
  rw [z_cp_all]
  generalize ez472 : List.set Mz469 (k + 2) _ = Mz471
  refine zw_n 1 rfl ?_
  refine zw_get (v := .ref (k2 + 3)) rfl (zat_set ez472 (by omega) (zat_set ez470 (by omega) (zat_set ez468 (by omega) (zat_set ez466 (by omega) (hR2.get 0 rfl))))) rfl ?_
  refine zw_n 2 rfl ?_
  refine zw_get (v := .ref (k + 3)) rfl (zat_set ez472 (by omega) (zat_set ez470 (by omega) (zat_self ez468 (zat_self ez466 (hR.get 0 rfl))))) rfl ?_
  refine zw_n 2 rfl ?_
  refine zw_get (v := .ref (k + 3)) rfl (zat_set ez472 (by omega) (zat_set ez470 (by omega) (zat_self ez468 (zat_self ez466 (hR.get 0 rfl))))) rfl ?_
  refine zw_alen rfl (zat_set ez472 (by omega) (zat_set ez470 (by omega) (zat_set ez468 (by omega) (zat_set ez466 (by omega) (hR.get 3 rfl))))) rfl ?_
  refine zw_cpyi (n := 32) (sp := 0) (dp := 0) rfl (by decide) (zat_set ez472 (by omega) (zat_set ez470 (by omega) (zat_set ez468 (by omega) (zat_set ez466 (by omega) (hR2.get 3 rfl))))) (zat_set ez472 (by omega) (zat_set ez470 (by omega) (zat_set ez468 (by omega) (zat_set ez466 (by omega) (hR.get 3 rfl))))) rfl rfl rfl (by omega) (by omega) rfl ?_
  rw [z_cp_all]
  generalize ez474 : List.set Mz471 (k + 3) _ = Mz473
  refine zw_n 1 rfl ?_
  refine zw_get (v := .ref (k2 + 4)) rfl (zat_set ez474 (by omega) (zat_set ez472 (by omega) (zat_set ez470 (by omega) (zat_set ez468 (by omega) (zat_set ez466 (by omega) (hR2.get 0 rfl)))))) rfl ?_
  refine zw_n 2 rfl ?_
  refine zw_get (v := .ref (k + 4)) rfl (zat_set ez474 (by omega) (zat_set ez472 (by omega) (zat_set ez470 (by omega) (zat_self ez468 (zat_self ez466 (hR.get 0 rfl)))))) rfl ?_
  refine zw_n 2 rfl ?_
  refine zw_get (v := .ref (k + 4)) rfl (zat_set ez474 (by omega) (zat_set ez472 (by omega) (zat_set ez470 (by omega) (zat_self ez468 (zat_self ez466 (hR.get 0 rfl)))))) rfl ?_
  refine zw_alen rfl (zat_set ez474 (by omega) (zat_set ez472 (by omega) (zat_set ez470 (by omega) (zat_set ez468 (by omega) (zat_set ez466 (by omega) (hR.get 4 rfl)))))) rfl ?_
  refine zw_cpyi (n := 160) (sp := 0) (dp := 0) rfl (by decide) (zat_set ez474 (by omega) (zat_set ez472 (by omega) (zat_set ez470 (by omega) (zat_set ez468 (by omega) (zat_set ez466 (by omega) (hR2.get 4 rfl)))))) (zat_set ez474 (by omega) (zat_set ez472 (by omega) (zat_set ez470 (by omega) (zat_set ez468 (by omega) (zat_set ez466 (by omega) (hR.get 4 rfl)))))) rfl rfl rfl (by omega) (by omega) rfl ?_
  rw [z_cp_all]
  generalize ez476 : List.set Mz473 (k + 4) _ = Mz475
  refine zw_n 1 rfl ?_
  refine zw_get (v := .ref (k2 + 5)) rfl (zat_set ez476 (by omega) (zat_set ez474 (by omega) (zat_set ez472 (by omega) (zat_set ez470 (by omega) (zat_set ez468 (by omega) (zat_set ez466 (by omega) (hR2.get 0 rfl))))))) rfl ?_
  refine zw_n 2 rfl ?_
  refine zw_get (v := .ref (k + 5)) rfl (zat_set ez476 (by omega) (zat_set ez474 (by omega) (zat_set ez472 (by omega) (zat_set ez470 (by omega) (zat_self ez468 (zat_self ez466 (hR.get 0 rfl))))))) rfl ?_
  refine zw_n 2 rfl ?_
  refine zw_get (v := .ref (k + 5)) rfl (zat_set ez476 (by omega) (zat_set ez474 (by omega) (zat_set ez472 (by omega) (zat_set ez470 (by omega) (zat_self ez468 (zat_self ez466 (hR.get 0 rfl))))))) rfl ?_
  refine zw_alen rfl (zat_set ez476 (by omega) (zat_set ez474 (by omega) (zat_set ez472 (by omega) (zat_set ez470 (by omega) (zat_set ez468 (by omega) (zat_set ez466 (by omega) (hR.get 5 rfl))))))) rfl ?_
  refine zw_cpyi (n := 160) (sp := 0) (dp := 0) rfl (by decide) (zat_set ez476 (by omega) (zat_set ez474 (by omega) (zat_set ez472 (by omega) (zat_set ez470 (by omega) (zat_set ez468 (by omega) (zat_set ez466 (by omega) (hR2.get 5 rfl))))))) (zat_set ez476 (by omega) (zat_set ez474 (by omega) (zat_set ez472 (by omega) (zat_set ez470 (by omega) (zat_set ez468 (by omega) (zat_set ez466 (by omega) (hR.get 5 rfl))))))) rfl rfl rfl (by omega) (by omega) rfl ?_
  rw [z_cp_all]
  generalize ez478 : List.set Mz475 (k + 5) _ = Mz477
  refine zw_n 1 rfl ?_
  refine zw_get (v := .ref (k2 + 6)) rfl (zat_set ez478 (by omega) (zat_set ez476 (by omega) (zat_set ez474 (by omega) (zat_set ez472 (by omega) (zat_set ez470 (by omega) (zat_set ez468 (by omega) (zat_set ez466 (by omega) (hR2.get 0 rfl)))))))) rfl ?_
  refine zw_n 2 rfl ?_
  refine zw_get (v := .ref (k + 6)) rfl (zat_set ez478 (by omega) (zat_set ez476 (by omega) (zat_set ez474 (by omega) (zat_set ez472 (by omega) (zat_set ez470 (by omega) (zat_self ez468 (zat_self ez466 (hR.get 0 rfl)))))))) rfl ?_
  refine zw_n 2 rfl ?_
  refine zw_get (v := .ref (k + 6)) rfl (zat_set ez478 (by omega) (zat_set ez476 (by omega) (zat_set ez474 (by omega) (zat_set ez472 (by omega) (zat_set ez470 (by omega) (zat_self ez468 (zat_self ez466 (hR.get 0 rfl)))))))) rfl ?_
  refine zw_alen rfl (zat_set ez478 (by omega) (zat_set ez476 (by omega) (zat_set ez474 (by omega) (zat_set ez472 (by omega) (zat_set ez470 (by omega) (zat_set ez468 (by omega) (zat_set ez466 (by omega) (hR.get 6 rfl)))))))) rfl ?_
  refine zw_cpyi (n := 160) (sp := 0) (dp := 0) rfl (by decide) (zat_set ez478 (by omega) (zat_set ez476 (by omega) (zat_set ez474 (by omega) (zat_set ez472 (by omega) (zat_set ez470 (by omega) (zat_set ez468 (by omega) (zat_set ez466 (by omega) (hR2.get 6 rfl)))))))) (zat_set ez478 (by omega) (zat_set ez476 (by omega) (zat_set ez474 (by omega) (zat_set ez472 (by omega) (zat_set ez470 (by omega) (zat_set ez468 (by omega) (zat_set ez466 (by omega) (hR.get 6 rfl)))))))) rfl rfl rfl (by omega) (by omega) rfl ?_
  rw [z_cp_all]
  generalize ez480 : List.set Mz477 (k + 6) _ = Mz479
  refine zw_n 1 rfl ?_
  refine zw_get (v := .ref (k2 + 7)) rfl (zat_set ez480 (by omega) (zat_set ez478 (by omega) (zat_set ez476 (by omega) (zat_set ez474 (by omega) (zat_set ez472 (by omega) (zat_set ez470 (by omega) (zat_set ez468 (by omega) (zat_set ez466 (by omega) (hR2.get 0 rfl))))))))) rfl ?_
  refine zw_n 2 rfl ?_
  refine zw_get (v := .ref (k + 7)) rfl (zat_set ez480 (by omega) (zat_set ez478 (by omega) (zat_set ez476 (by omega) (zat_set ez474 (by omega) (zat_set ez472 (by omega) (zat_set ez470 (by omega) (zat_self ez468 (zat_self ez466 (hR.get 0 rfl))))))))) rfl ?_
  refine zw_n 2 rfl ?_
  refine zw_get (v := .ref (k + 7)) rfl (zat_set ez480 (by omega) (zat_set ez478 (by omega) (zat_set ez476 (by omega) (zat_set ez474 (by omega) (zat_set ez472 (by omega) (zat_set ez470 (by omega) (zat_self ez468 (zat_self ez466 (hR.get 0 rfl))))))))) rfl ?_
  refine zw_alen rfl (zat_set ez480 (by omega) (zat_set ez478 (by omega) (zat_set ez476 (by omega) (zat_set ez474 (by omega) (zat_set ez472 (by omega) (zat_set ez470 (by omega) (zat_set ez468 (by omega) (zat_set ez466 (by omega) (hR.get 7 rfl))))))))) rfl ?_
  refine zw_cpyl (n := 8) (sp := 0) (dp := 0) rfl (by decide) (zat_set ez480 (by omega) (zat_set ez478 (by omega) (zat_set ez476 (by omega) (zat_set ez474 (by omega) (zat_set ez472 (by omega) (zat_set ez470 (by omega) (zat_set ez468 (by omega) (zat_set ez466 (by omega) (hR2.get 7 rfl))))))))) (zat_set ez480 (by omega) (zat_set ez478 (by omega) (zat_set ez476 (by omega) (zat_set ez474 (by omega) (zat_set ez472 (by omega) (zat_set ez470 (by omega) (zat_set ez468 (by omega) (zat_set ez466 (by omega) (hR.get 7 rfl))))))))) rfl rfl rfl (by omega) (by omega) rfl ?_
  rw [z_cp_all]
  generalize ez482 : List.set Mz479 (k + 7) _ = Mz481
  refine zw_n 1 rfl ?_
  refine zw_get (v := .ref (k2 + 8)) rfl (zat_set ez482 (by omega) (zat_set ez480 (by omega) (zat_set ez478 (by omega) (zat_set ez476 (by omega) (zat_set ez474 (by omega) (zat_set ez472 (by omega) (zat_set ez470 (by omega) (zat_set ez468 (by omega) (zat_set ez466 (by omega) (hR2.get 0 rfl)))))))))) rfl ?_
  refine zw_n 2 rfl ?_
  refine zw_get (v := .ref (k + 8)) rfl (zat_set ez482 (by omega) (zat_set ez480 (by omega) (zat_set ez478 (by omega) (zat_set ez476 (by omega) (zat_set ez474 (by omega) (zat_set ez472 (by omega) (zat_set ez470 (by omega) (zat_self ez468 (zat_self ez466 (hR.get 0 rfl)))))))))) rfl ?_
  refine zw_n 2 rfl ?_
  refine zw_get (v := .ref (k + 8)) rfl (zat_set ez482 (by omega) (zat_set ez480 (by omega) (zat_set ez478 (by omega) (zat_set ez476 (by omega) (zat_set ez474 (by omega) (zat_set ez472 (by omega) (zat_set ez470 (by omega) (zat_self ez468 (zat_self ez466 (hR.get 0 rfl)))))))))) rfl ?_
  refine zw_alen rfl (zat_set ez482 (by omega) (zat_set ez480 (by omega) (zat_set ez478 (by omega) (zat_set ez476 (by omega) (zat_set ez474 (by omega) (zat_set ez472 (by omega) (zat_set ez470 (by omega) (zat_set ez468 (by omega) (zat_set ez466 (by omega) (hR.get 8 rfl)))))))))) rfl ?_
  refine zw_cpyl (n := 32) (sp := 0) (dp := 0) rfl (by decide) (zat_set ez482 (by omega) (zat_set ez480 (by omega) (zat_set ez478 (by omega) (zat_set ez476 (by omega) (zat_set ez474 (by omega) (zat_set ez472 (by omega) (zat_set ez470 (by omega) (zat_set ez468 (by omega) (zat_set ez466 (by omega) (hR2.get 8 rfl)))))))))) (zat_set ez482 (by omega) (zat_set ez480 (by omega) (zat_set ez478 (by omega) (zat_set ez476 (by omega) (zat_set ez474 (by omega) (zat_set ez472 (by omega) (zat_set ez470 (by omega) (zat_set ez468 (by omega) (zat_set ez466 (by omega) (hR.get 8 rfl)))))))))) rfl rfl rfl (by omega) (by omega) rfl ?_
  rw [z_cp_all]
  generalize ez484 : List.set Mz481 (k + 8) _ = Mz483
  refine zw_n 1 rfl ?_
  refine zw_get (v := .ref (k2 + 9)) rfl (zat_set ez484 (by omega) (zat_set ez482 (by omega) (zat_set ez480 (by omega) (zat_set ez478 (by omega) (zat_set ez476 (by omega) (zat_set ez474 (by omega) (zat_set ez472 (by omega) (zat_set ez470 (by omega) (zat_set ez468 (by omega) (zat_set ez466 (by omega) (hR2.get 0 rfl))))))))))) rfl ?_
  refine zw_n 2 rfl ?_
  refine zw_get (v := .ref (k + 9)) rfl (zat_set ez484 (by omega) (zat_set ez482 (by omega) (zat_set ez480 (by omega) (zat_set ez478 (by omega) (zat_set ez476 (by omega) (zat_set ez474 (by omega) (zat_set ez472 (by omega) (zat_set ez470 (by omega) (zat_self ez468 (zat_self ez466 (hR.get 0 rfl))))))))))) rfl ?_
  refine zw_n 2 rfl ?_
  refine zw_get (v := .ref (k + 9)) rfl (zat_set ez484 (by omega) (zat_set ez482 (by omega) (zat_set ez480 (by omega) (zat_set ez478 (by omega) (zat_set ez476 (by omega) (zat_set ez474 (by omega) (zat_set ez472 (by omega) (zat_set ez470 (by omega) (zat_self ez468 (zat_self ez466 (hR.get 0 rfl))))))))))) rfl ?_
  refine zw_alen rfl (zat_set ez484 (by omega) (zat_set ez482 (by omega) (zat_set ez480 (by omega) (zat_set ez478 (by omega) (zat_set ez476 (by omega) (zat_set ez474 (by omega) (zat_set ez472 (by omega) (zat_set ez470 (by omega) (zat_set ez468 (by omega) (zat_set ez466 (by omega) (hR.get 9 rfl))))))))))) rfl ?_
  refine zw_cpyl (n := 160) (sp := 0) (dp := 0) rfl (by decide) (zat_set ez484 (by omega) (zat_set ez482 (by omega) (zat_set ez480 (by omega) (zat_set ez478 (by omega) (zat_set ez476 (by omega) (zat_set ez474 (by omega) (zat_set ez472 (by omega) (zat_set ez470 (by omega) (zat_set ez468 (by omega) (zat_set ez466 (by omega) (hR2.get 9 rfl))))))))))) (zat_set ez484 (by omega) (zat_set ez482 (by omega) (zat_set ez480 (by omega) (zat_set ez478 (by omega) (zat_set ez476 (by omega) (zat_set ez474 (by omega) (zat_set ez472 (by omega) (zat_set ez470 (by omega) (zat_set ez468 (by omega) (zat_set ez466 (by omega) (hR.get 9 rfl))))))))))) rfl rfl rfl (by omega) (by omega) rfl ?_
  rw [z_cp_all]
  generalize ez486 : List.set Mz483 (k + 9) _ = Mz485
  have mz487 : Mz485[k]? = some (.inr (8, [.int (nI n2), .ref (k + 1), .ref (k + 2), .ref (k + 3), .ref (k + 4), .ref (k + 5), .ref (k + 6), .int (nI em2), .ref (k + 7), .ref (k + 8), .ref (k + 9)])) := zat_set ez486 (by omega) (zat_set ez484 (by omega) (zat_set ez482 (by omega) (zat_set ez480 (by omega) (zat_set ez478 (by omega) (zat_set ez476 (by omega) (zat_set ez474 (by omega) (zat_set ez472 (by omega) (zat_set ez470 (by omega) (zat_self ez468 (zat_self ez466 (hR.get 0 rfl)))))))))))
  have mz488 : Mz485[k + 1]? = some (.inl (0, 8, .inl (ai gn2))) := zat_set ez486 (by omega) (zat_set ez484 (by omega) (zat_set ez482 (by omega) (zat_set ez480 (by omega) (zat_set ez478 (by omega) (zat_set ez476 (by omega) (zat_set ez474 (by omega) (zat_set ez472 (by omega) (zat_self ez470 (zat_set ez468 (by omega) (zat_set ez466 (by omega) (hR.get 1 rfl)))))))))))
  have mz489 : Mz485[k + 2]? = some (.inl (0, 8, .inl (ai al2))) := zat_set ez486 (by omega) (zat_set ez484 (by omega) (zat_set ez482 (by omega) (zat_set ez480 (by omega) (zat_set ez478 (by omega) (zat_set ez476 (by omega) (zat_set ez474 (by omega) (zat_self ez472 (zat_set ez470 (by omega) (zat_set ez468 (by omega) (zat_set ez466 (by omega) (hR.get 2 rfl)))))))))))
  have mz490 : Mz485[k + 3]? = some (.inl (0, 32, .inl (ai it2))) := zat_set ez486 (by omega) (zat_set ez484 (by omega) (zat_set ez482 (by omega) (zat_set ez480 (by omega) (zat_set ez478 (by omega) (zat_set ez476 (by omega) (zat_self ez474 (zat_set ez472 (by omega) (zat_set ez470 (by omega) (zat_set ez468 (by omega) (zat_set ez466 (by omega) (hR.get 3 rfl)))))))))))
  have mz491 : Mz485[k + 4]? = some (.inl (0, 160, .inl (ai pt2))) := zat_set ez486 (by omega) (zat_set ez484 (by omega) (zat_set ez482 (by omega) (zat_set ez480 (by omega) (zat_set ez478 (by omega) (zat_self ez476 (zat_set ez474 (by omega) (zat_set ez472 (by omega) (zat_set ez470 (by omega) (zat_set ez468 (by omega) (zat_set ez466 (by omega) (hR.get 4 rfl)))))))))))
  have mz492 : Mz485[k + 5]? = some (.inl (0, 160, .inl (ai tg2))) := zat_set ez486 (by omega) (zat_set ez484 (by omega) (zat_set ez482 (by omega) (zat_set ez480 (by omega) (zat_self ez478 (zat_set ez476 (by omega) (zat_set ez474 (by omega) (zat_set ez472 (by omega) (zat_set ez470 (by omega) (zat_set ez468 (by omega) (zat_set ez466 (by omega) (hR.get 5 rfl)))))))))))
  have mz493 : Mz485[k + 6]? = some (.inl (0, 160, .inl (ai bd2))) := zat_set ez486 (by omega) (zat_set ez484 (by omega) (zat_set ez482 (by omega) (zat_self ez480 (zat_set ez478 (by omega) (zat_set ez476 (by omega) (zat_set ez474 (by omega) (zat_set ez472 (by omega) (zat_set ez470 (by omega) (zat_set ez468 (by omega) (zat_set ez466 (by omega) (hR.get 6 rfl)))))))))))
  have mz494 : Mz485[k + 7]? = some (.inl (1, 8, .inr (.inl (al fr2)))) := zat_set ez486 (by omega) (zat_set ez484 (by omega) (zat_self ez482 (zat_set ez480 (by omega) (zat_set ez478 (by omega) (zat_set ez476 (by omega) (zat_set ez474 (by omega) (zat_set ez472 (by omega) (zat_set ez470 (by omega) (zat_set ez468 (by omega) (zat_set ez466 (by omega) (hR.get 7 rfl)))))))))))
  have mz495 : Mz485[k + 8]? = some (.inl (1, 32, .inr (.inl (al af2)))) := zat_set ez486 (by omega) (zat_self ez484 (zat_set ez482 (by omega) (zat_set ez480 (by omega) (zat_set ez478 (by omega) (zat_set ez476 (by omega) (zat_set ez474 (by omega) (zat_set ez472 (by omega) (zat_set ez470 (by omega) (zat_set ez468 (by omega) (zat_set ez466 (by omega) (hR.get 8 rfl)))))))))))
  have mz496 : Mz485[k + 9]? = some (.inl (1, 160, .inr (.inl (al fb2)))) := zat_self ez486 (zat_set ez484 (by omega) (zat_set ez482 (by omega) (zat_set ez480 (by omega) (zat_set ez478 (by omega) (zat_set ez476 (by omega) (zat_set ez474 (by omega) (zat_set ez472 (by omega) (zat_set ez470 (by omega) (zat_set ez468 (by omega) (zat_set ez466 (by omega) (hR.get 9 rfl)))))))))))
  have mz497 : Mz485[k2]? = some (.inr (8, [.int (nI n2), .ref (k2 + 1), .ref (k2 + 2), .ref (k2 + 3), .ref (k2 + 4), .ref (k2 + 5), .ref (k2 + 6), .int (nI em2), .ref (k2 + 7), .ref (k2 + 8), .ref (k2 + 9)])) := zat_set ez486 (by omega) (zat_set ez484 (by omega) (zat_set ez482 (by omega) (zat_set ez480 (by omega) (zat_set ez478 (by omega) (zat_set ez476 (by omega) (zat_set ez474 (by omega) (zat_set ez472 (by omega) (zat_set ez470 (by omega) (zat_set ez468 (by omega) (zat_set ez466 (by omega) (hR2.get 0 rfl)))))))))))
  have mz498 : Mz485[k2 + 1]? = some (.inl (0, 8, .inl (ai gn2))) := zat_set ez486 (by omega) (zat_set ez484 (by omega) (zat_set ez482 (by omega) (zat_set ez480 (by omega) (zat_set ez478 (by omega) (zat_set ez476 (by omega) (zat_set ez474 (by omega) (zat_set ez472 (by omega) (zat_set ez470 (by omega) (zat_set ez468 (by omega) (zat_set ez466 (by omega) (hR2.get 1 rfl)))))))))))
  have mz499 : Mz485[k2 + 2]? = some (.inl (0, 8, .inl (ai al2))) := zat_set ez486 (by omega) (zat_set ez484 (by omega) (zat_set ez482 (by omega) (zat_set ez480 (by omega) (zat_set ez478 (by omega) (zat_set ez476 (by omega) (zat_set ez474 (by omega) (zat_set ez472 (by omega) (zat_set ez470 (by omega) (zat_set ez468 (by omega) (zat_set ez466 (by omega) (hR2.get 2 rfl)))))))))))
  have mz500 : Mz485[k2 + 3]? = some (.inl (0, 32, .inl (ai it2))) := zat_set ez486 (by omega) (zat_set ez484 (by omega) (zat_set ez482 (by omega) (zat_set ez480 (by omega) (zat_set ez478 (by omega) (zat_set ez476 (by omega) (zat_set ez474 (by omega) (zat_set ez472 (by omega) (zat_set ez470 (by omega) (zat_set ez468 (by omega) (zat_set ez466 (by omega) (hR2.get 3 rfl)))))))))))
  have mz501 : Mz485[k2 + 4]? = some (.inl (0, 160, .inl (ai pt2))) := zat_set ez486 (by omega) (zat_set ez484 (by omega) (zat_set ez482 (by omega) (zat_set ez480 (by omega) (zat_set ez478 (by omega) (zat_set ez476 (by omega) (zat_set ez474 (by omega) (zat_set ez472 (by omega) (zat_set ez470 (by omega) (zat_set ez468 (by omega) (zat_set ez466 (by omega) (hR2.get 4 rfl)))))))))))
  have mz502 : Mz485[k2 + 5]? = some (.inl (0, 160, .inl (ai tg2))) := zat_set ez486 (by omega) (zat_set ez484 (by omega) (zat_set ez482 (by omega) (zat_set ez480 (by omega) (zat_set ez478 (by omega) (zat_set ez476 (by omega) (zat_set ez474 (by omega) (zat_set ez472 (by omega) (zat_set ez470 (by omega) (zat_set ez468 (by omega) (zat_set ez466 (by omega) (hR2.get 5 rfl)))))))))))
  have mz503 : Mz485[k2 + 6]? = some (.inl (0, 160, .inl (ai bd2))) := zat_set ez486 (by omega) (zat_set ez484 (by omega) (zat_set ez482 (by omega) (zat_set ez480 (by omega) (zat_set ez478 (by omega) (zat_set ez476 (by omega) (zat_set ez474 (by omega) (zat_set ez472 (by omega) (zat_set ez470 (by omega) (zat_set ez468 (by omega) (zat_set ez466 (by omega) (hR2.get 6 rfl)))))))))))
  have mz504 : Mz485[k2 + 7]? = some (.inl (1, 8, .inr (.inl (al fr2)))) := zat_set ez486 (by omega) (zat_set ez484 (by omega) (zat_set ez482 (by omega) (zat_set ez480 (by omega) (zat_set ez478 (by omega) (zat_set ez476 (by omega) (zat_set ez474 (by omega) (zat_set ez472 (by omega) (zat_set ez470 (by omega) (zat_set ez468 (by omega) (zat_set ez466 (by omega) (hR2.get 7 rfl)))))))))))
  have mz505 : Mz485[k2 + 8]? = some (.inl (1, 32, .inr (.inl (al af2)))) := zat_set ez486 (by omega) (zat_set ez484 (by omega) (zat_set ez482 (by omega) (zat_set ez480 (by omega) (zat_set ez478 (by omega) (zat_set ez476 (by omega) (zat_set ez474 (by omega) (zat_set ez472 (by omega) (zat_set ez470 (by omega) (zat_set ez468 (by omega) (zat_set ez466 (by omega) (hR2.get 8 rfl)))))))))))
  have mz506 : Mz485[k2 + 9]? = some (.inl (1, 160, .inr (.inl (al fb2)))) := zat_set ez486 (by omega) (zat_set ez484 (by omega) (zat_set ez482 (by omega) (zat_set ez480 (by omega) (zat_set ez478 (by omega) (zat_set ez476 (by omega) (zat_set ez474 (by omega) (zat_set ez472 (by omega) (zat_set ez470 (by omega) (zat_set ez468 (by omega) (zat_set ez466 (by omega) (hR2.get 9 rfl)))))))))))
  have sz507 : Sm Mq Mz485 [k, k + 1, k + 2, k + 3, k + 4, k + 5, k + 6, k + 7, k + 8, k + 9] := Sm.tset (Sm.tset (Sm.tset (Sm.tset (Sm.tset (Sm.tset (Sm.tset (Sm.tset (Sm.tset (Sm.tset (Sm.tset Sm.rf ez466 (by simp)) ez468 (by simp)) ez470 (by simp)) ez472 (by simp)) ez474 (by simp)) ez476 (by simp)) ez478 (by simp)) ez480 (by simp)) ez482 (by simp)) ez484 (by simp)) ez486 (by simp)
  exact zw_vret rfl rfl (⟨rfl, (seg10 mz487 mz488 mz489 mz490 mz491 mz492 mz493 mz494 mz495 mz496), sz507⟩)

set_option maxHeartbeats 4000000 in
set_option maxRecDepth 100000 in
theorem c_remember (Mq : zM) (f : Nat → Nat → Nat) (hC : CC Mq f) (hz : f 50 0 ≤ 10) (he : f 50 1 < 10) : Zm 2 zm_History_remember [.ref 50, .ref 30] Mq (fun r9 M1 => r9 = none ∧ CC M1 (hRem f) ∧ Smc Mq M1) := by
  show Zw 2 zm_History_remember 0 [some (.ref 50), some (.ref 30)] [] Mq _
  obtain ⟨gq, tq, htq, h51, hgq⟩ := hC.2.1
  have hP := past_seg hC (e := f 50 1) he
  refine zw_n 1 rfl ?_
  refine zw_get (v := .ref 51) rfl (hC.1 50 (by decide) (by decide) (by decide)) rfl ?_
  refine zw_n 1 rfl ?_
  refine zw_get (v := .int (nI (f 50 1))) rfl (hC.1 50 (by decide) (by decide) (by decide)) rfl ?_
  refine zw_aald (j := (f 50 1)) rfl h51 htq rfl (by decide) (by omega) (hgq (f 50 1) he) ?_
  refine zw_n 1 rfl ?_
  refine zw_callV (as := [.ref 30]) (rest := []) rfl rfl rfl (hP.get 0 rfl) rfl rfl rfl (by decide) (c_copyTok Mq (52 + 4 * (f 50 1)) 30 (f (52 + 4 * (f 50 1)) 0) (f (52 + 4 * (f 50 1) + 1)) (f (52 + 4 * (f 50 1) + 2)) (f (52 + 4 * (f 50 1) + 3)) (seg4 (hP.get 0 rfl) (hP.get 1 rfl) (hP.get 2 rfl) (hP.get 3 rfl)) (f 30 0) (f 31) (f 32) (f 33) (seg4 (hC.1 30 (by decide) (by decide) (by decide)) (hC.1 31 (by decide) (by decide) (by decide)) (hC.1 32 (by decide) (by decide) (by decide)) (hC.1 33 (by decide) (by decide) (by decide))) (by omega)) (fun rz511 Mz512 hz513 => ?_)
  obtain ⟨hAz508, hBz509, hSz510⟩ := hz513
  rw [hAz508]
  show Zw 2 zm_History_remember 13 [some (.ref 50), some (.ref 30)] [] Mz512 _
  refine zw_n 2 rfl ?_
  refine zw_get (v := .int (nI (f 50 1))) rfl (Sm.at hSz510 (by simp <;> omega) (hC.1 50 (by decide) (by decide) (by decide))) rfl ?_
  refine zw_n 2 rfl ?_
  refine zw_top (na (a := f 50 1) (b := 1) rfl rfl) ?_
  refine zw_n 2 rfl ?_
  refine zw_top (x' := (nI ((f 50 1 + 1) % 10))) (nrem (a := f 50 1 + 1) (b := 10) rfl rfl (by omega) (by decide) (by decide)) ?_
  refine zw_put rfl (Sm.at hSz510 (by simp <;> omega) (hC.1 50 (by decide) (by decide) (by decide))) (rfl) (Nat.le_of_ble_eq_true rfl) ?_
  generalize ez515 : List.set Mz512 50 _ = Mz514
  refine zw_n 2 rfl ?_
  refine zw_get (v := .int (nI (f 50 0))) rfl (zat_self ez515 (Sm.at hSz510 (by simp <;> omega) (hC.1 50 (by decide) (by decide) (by decide)))) rfl ?_
  refine zw_n 2 rfl ?_
  refine zw_top (na (a := f 50 0) (b := 1) rfl rfl) ?_
  refine zw_n 1 rfl ?_
  refine zw_minN (a := (f 50 0) + 1) (b := 10) rfl (by decide) rfl rfl rfl (by omega) (by omega) ?_
  refine zw_put rfl (zat_self ez515 (Sm.at hSz510 (by simp <;> omega) (hC.1 50 (by decide) (by decide) (by decide)))) (rfl) (Nat.le_of_ble_eq_true rfl) ?_
  generalize ez517 : List.set Mz514 50 _ = Mz516
  exact zw_vret rfl rfl (⟨rfl, CC.past5 he hC (Sm.tset (Sm.tset (Sm.tw Sm.rf hSz510 (by simp)) ez515 (by decide)) ez517 (by decide)) (zat_self ez517 (zat_self ez515 (Sm.at hSz510 (by simp <;> omega) (hC.1 50 (by decide) (by decide) (by decide))))) (seg4 (zat_set ez517 (by omega) (zat_set ez515 (by omega) (hBz509.get 0 rfl))) (zat_set ez517 (by omega) (zat_set ez515 (by omega) (hBz509.get 1 rfl))) (zat_set ez517 (by omega) (zat_set ez515 (by omega) (hBz509.get 2 rfl))) (zat_set ez517 (by omega) (zat_set ez515 (by omega) (hBz509.get 3 rfl)))), Smc.of (Sm.tset (Sm.tset (Sm.tw Sm.rf hSz510 (by simp)) ez515 (by decide)) ez517 (by decide)) (by intro a ha; simp at ha; omega)⟩)

set_option maxHeartbeats 4000000 in
set_option maxRecDepth 100000 in
theorem c_takeBack (Mq : zM) (f : Nat → Nat → Nat) (hC : CC Mq f) (hz : f 50 0 ≤ 10) (he : f 50 1 < 10) (h0 : 0 < f 50 0) : Zm 2 zm_History_takeBack [.ref 50, .ref 26] Mq (fun r9 M1 => r9 = none ∧ CC M1 (hBack f) ∧ Sm Mq M1 [50, 26, 27, 28, 29]) := by
  show Zw 2 zm_History_takeBack 0 [some (.ref 50), some (.ref 26)] [] Mq _
  obtain ⟨gq, tq, htq, h51, hgq⟩ := hC.2.1
  have hP := past_seg hC (e := (f 50 1 + 9) % 10) (by omega)
  refine zw_n 2 rfl ?_
  refine zw_get (v := .int (nI (f 50 1))) rfl (hC.1 50 (by decide) (by decide) (by decide)) rfl ?_
  refine zw_n 2 rfl ?_
  refine zw_top (na (a := f 50 1) (b := 10) rfl rfl) ?_
  refine zw_n 2 rfl ?_
  refine zw_top (ns (a := (f 50 1) + 10) (b := 1) rfl rfl (by omega)) ?_
  refine zw_n 2 rfl ?_
  refine zw_top (x' := (nI ((f 50 1 + 9) % 10))) ((nrem (a := f 50 1 + 10 - 1) (b := 10) rfl rfl (by omega) (by decide) (by decide)).trans (congrArg nI (by omega))) ?_
  refine zw_put rfl (hC.1 50 (by decide) (by decide) (by decide)) (rfl) (Nat.le_of_ble_eq_true rfl) ?_
  generalize ez519 : List.set Mq 50 _ = Mz518
  refine zw_n 2 rfl ?_
  refine zw_get (v := .int (nI (f 50 0))) rfl (zat_self ez519 (hC.1 50 (by decide) (by decide) (by decide))) rfl ?_
  refine zw_n 2 rfl ?_
  refine zw_top (ns (a := f 50 0) (b := 1) rfl rfl (by omega)) ?_
  refine zw_put rfl (zat_self ez519 (hC.1 50 (by decide) (by decide) (by decide))) (rfl) (Nat.le_of_ble_eq_true rfl) ?_
  generalize ez521 : List.set Mz518 50 _ = Mz520
  refine zw_n 2 rfl ?_
  refine zw_get (v := .ref 51) rfl (zat_self ez521 (zat_self ez519 (hC.1 50 (by decide) (by decide) (by decide)))) rfl ?_
  refine zw_n 1 rfl ?_
  refine zw_get (v := .int (nI ((f 50 1 + 9) % 10))) rfl (zat_self ez521 (zat_self ez519 (hC.1 50 (by decide) (by decide) (by decide)))) rfl ?_
  refine zw_aald (j := ((f 50 1 + 9) % 10)) rfl (zat_set ez521 (by decide) (zat_set ez519 (by decide) h51)) htq rfl (by decide) (by omega) (hgq ((f 50 1 + 9) % 10) (by omega)) ?_
  refine zw_callV (as := [.ref (52 + 4 * ((f 50 1 + 9) % 10))]) (rest := []) rfl rfl rfl (zat_set ez521 (by decide) (zat_set ez519 (by decide) (hC.1 26 (by decide) (by decide) (by decide)))) rfl rfl rfl (by decide) (c_copyTok Mz520 26 (52 + 4 * ((f 50 1 + 9) % 10)) (f 26 0) (f 27) (f 28) (f 29) (seg4 (zat_set ez521 (by decide) (zat_set ez519 (by decide) (hC.1 26 (by decide) (by decide) (by decide)))) (zat_set ez521 (by decide) (zat_set ez519 (by decide) (hC.1 27 (by decide) (by decide) (by decide)))) (zat_set ez521 (by decide) (zat_set ez519 (by decide) (hC.1 28 (by decide) (by decide) (by decide)))) (zat_set ez521 (by decide) (zat_set ez519 (by decide) (hC.1 29 (by decide) (by decide) (by decide))))) (f (52 + 4 * ((f 50 1 + 9) % 10)) 0) (f (52 + 4 * ((f 50 1 + 9) % 10) + 1)) (f (52 + 4 * ((f 50 1 + 9) % 10) + 2)) (f (52 + 4 * ((f 50 1 + 9) % 10) + 3)) (seg4 (zat_set ez521 (by omega) (zat_set ez519 (by omega) (hP.get 0 rfl))) (zat_set ez521 (by omega) (zat_set ez519 (by omega) (hP.get 1 rfl))) (zat_set ez521 (by omega) (zat_set ez519 (by omega) (hP.get 2 rfl))) (zat_set ez521 (by omega) (zat_set ez519 (by omega) (hP.get 3 rfl)))) (by omega)) (fun rz525 Mz526 hz527 => ?_)
  obtain ⟨hAz522, hBz523, hSz524⟩ := hz527
  rw [hAz522]
  show Zw 2 zm_History_takeBack 39 [some (.ref 50), some (.ref 26)] [] Mz526 _
  exact zw_vret rfl rfl (⟨rfl, (CC.of (f' := fset (fset (fset (fset (fset f 29 (f (52 + 4 * ((f 50 1 + 9) % 10) + 3))) 28 (f (52 + 4 * ((f 50 1 + 9) % 10) + 2))) 27 (f (52 + 4 * ((f 50 1 + 9) % 10) + 1))) 26 (up (f 26) 0 (f (52 + 4 * ((f 50 1 + 9) % 10)) 0))) 50 (up (up (f 50) 0 ((f 50 0) - 1)) 1 ((f 50 1 + 9) % 10))) hC (Sm.tw (Sm.tset (Sm.tset Sm.rf ez519 (by decide)) ez521 (by decide)) hSz524 (by decide)) ⟨by decide, by decide⟩ (d1_cons (Sm.at hSz524 (by decide) (zat_self ez521 (zat_self ez519 (hC.1 50 (by decide) (by decide) (by decide))))) (d1_cons (hBz523.get 0 rfl) (d1_cons (hBz523.get 1 rfl) (d1_cons (hBz523.get 2 rfl) (d1_cons (hBz523.get 3 rfl) d1_nil))))) (fs_c (fs_c (fs_c (fs_c (fs_c fs_n)))))), Sm.tw (Sm.tset (Sm.tset Sm.rf ez519 (by decide)) ez521 (by decide)) hSz524 (by decide)⟩)

set_option maxHeartbeats 4000000 in
set_option maxRecDepth 100000 in
theorem c_changed (Mq : zM) (f : Nat → Nat → Nat) (hC : CC Mq f) : Zm 0 zm_CG_changed [.ref 0] Mq (fun r9 M1 => r9 = none ∧ CC M1 (chg f) ∧ Sm Mq M1 [134, 34, 0]) := by
  show Zw 0 zm_CG_changed 0 [some (.ref 0)] [] Mq _
  refine zw_n 1 rfl ?_
  refine zw_get (v := .ref 34) rfl (hC.1 0 (by decide) (by decide) (by decide)) rfl ?_
  refine zw_n 1 rfl ?_
  refine zw_put rfl (hC.1 34 (by decide) (by decide) (by decide)) (rfl) (Nat.le_of_ble_eq_true rfl) ?_
  generalize ez529 : List.set Mq 34 _ = Mz528
  refine zw_n 2 rfl ?_
  refine zw_put rfl (zat_set ez529 (by decide) (hC.1 0 (by decide) (by decide) (by decide))) (rfl) (Nat.le_of_ble_eq_true rfl) ?_
  generalize ez531 : List.set Mz528 0 _ = Mz530
  refine zw_n 1 rfl ?_
  refine zw_get (v := .ref 134) rfl (zat_self ez531 (zat_set ez529 (by decide) (hC.1 0 (by decide) (by decide) (by decide)))) rfl ?_
  refine zw_n 1 rfl ?_
  refine zw_put rfl (zat_set ez531 (by decide) (zat_set ez529 (by decide) (hC.1 134 (by decide) (by decide) (by decide)))) (rfl) (Nat.le_of_ble_eq_true rfl) ?_
  generalize ez533 : List.set Mz530 134 _ = Mz532
  refine zw_n 2 rfl ?_
  refine zw_top (x' := nI 4294967294) (by decide) ?_
  refine zw_put rfl (zat_set ez533 (by decide) (zat_self ez531 (zat_set ez529 (by decide) (hC.1 0 (by decide) (by decide) (by decide))))) (rfl) (Nat.le_of_ble_eq_true rfl) ?_
  generalize ez535 : List.set Mz532 0 _ = Mz534
  exact zw_vret rfl rfl (⟨rfl, (CC.of (f' := fset (fset (fset f 0 (up (up (f 0) 16 0) 17 4294967294)) 34 (up (f 34) 2 0)) 134 (up (f 134) 0 0)) hC (Sm.tset (Sm.tset (Sm.tset (Sm.tset Sm.rf ez529 (by decide)) ez531 (by decide)) ez533 (by decide)) ez535 (by decide)) ⟨by decide, by decide⟩ (d1_cons (zat_set ez535 (by decide) (zat_self ez533 (zat_set ez531 (by decide) (zat_set ez529 (by decide) (hC.1 134 (by decide) (by decide) (by decide)))))) (d1_cons (zat_set ez535 (by decide) (zat_set ez533 (by decide) (zat_set ez531 (by decide) (zat_self ez529 (hC.1 34 (by decide) (by decide) (by decide)))))) (d1_cons (zat_self ez535 (zat_set ez533 (by decide) (zat_self ez531 (zat_set ez529 (by decide) (hC.1 0 (by decide) (by decide) (by decide)))))) d1_nil))) (fs_c (fs_c (fs_c fs_n)))), Sm.tset (Sm.tset (Sm.tset (Sm.tset Sm.rf ez529 (by decide)) ez531 (by decide)) ez533 (by decide)) ez535 (by decide)⟩)

set_option maxHeartbeats 4000000 in
set_option maxRecDepth 100000 in
theorem c_acted (Mq : zM) (f : Nat → Nat → Nat) (hC : CC Mq f) (hz : f 50 0 ≤ 10) (he : f 50 1 < 10) (x : Int32) : Zm 3 zm_CG_acted [.ref 0, .int x] Mq (fun r9 M1 => r9 = some (.int x) ∧ (0 ≤ x.toInt → CC M1 (chg (hRem f)) ∧ Smc Mq M1) ∧ (x.toInt < 0 → M1 = Mq)) := by
  show Zw 3 zm_CG_acted 0 [some (.ref 0), some (.int x)] [] Mq _
  refine zw_n 1 rfl ?_
  refine zw_lt0Z (a := x.toInt) rfl (rfl) (fun c1 => ?_) (fun c1 => ?_)
  · -- 1 to 19
    refine zw_n 1 rfl ?_
    exact zw_iret rfl rfl (⟨rfl, fun h => absurd h (by omega), fun _ => rfl⟩)
  · -- 1 to 4
    refine zw_n 1 rfl ?_
    refine zw_get (v := .ref 50) rfl (hC.1 0 (by decide) (by decide) (by decide)) rfl ?_
    refine zw_n 1 rfl ?_
    refine zw_get (v := .ref 30) rfl (hC.1 0 (by decide) (by decide) (by decide)) rfl ?_
    refine zw_callV (as := [.ref 30]) (rest := []) rfl rfl rfl (hC.1 50 (by decide) (by decide) (by decide)) rfl rfl rfl (by decide) (c_remember Mq f hC hz he) (fun rz539 Mz540 hz541 => ?_)
    obtain ⟨hAz536, hBz537, hSz538⟩ := hz541
    rw [hAz536]
    show Zw 3 zm_CG_acted 15 [some (.ref 0), some (.int x)] [] Mz540 _
    refine zw_n 1 rfl ?_
    refine zw_callV (as := []) (rest := []) rfl rfl rfl (hBz537.1 0 (by decide) (by decide) (by decide)) rfl rfl rfl (by decide) (c_changed Mz540 (hRem f) hBz537) (fun rz545 Mz546 hz547 => ?_)
    obtain ⟨hAz542, hBz543, hSz544⟩ := hz547
    rw [hAz542]
    show Zw 3 zm_CG_acted 19 [some (.ref 0), some (.int x)] [] Mz546 _
    refine zw_n 1 rfl ?_
    exact zw_iret rfl rfl (⟨rfl, fun _ => ⟨hBz543, Smc.tr hSz538 (Smc.of hSz544 (by decide))⟩, fun h => absurd h (by omega)⟩)

set_option maxHeartbeats 4000000 in
set_option maxRecDepth 100000 in
theorem c_move (Mq : zM) (f : Nat → Nat → Nat) (L : Nat) (hC : CC Mq f) (hI : CInv L f) (hL : L < 100000) (x z : Int32) : Zm 4 zm_CG_move [.ref 0, .int x, .int z] Mq (fun r9 M1 => r9 = some (.int (nI (mvA (f 26 0) (f 28) (f 29) x.toInt z.toInt))) ∧ ∃ f9, CC M1 f9 ∧ Smc Mq M1 ∧ CInv (L + 1) f9 ∧ (mvA (f 26 0) (f 28) (f 29) x.toInt z.toInt < 2147483648 → ActS f f9 ∧ f9 26 0 = f 26 0 ∧ f9 27 = f 27 ∧ f9 28 = f 28 ∧ ∀ q, q < f 26 0 → f9 29 q = mvC (f 28) (f 29) x.toInt z.toInt q) ∧ (¬ mvA (f 26 0) (f 28) (f 29) x.toInt z.toInt < 2147483648 → Asame f f9)) := by
  show Zw 4 zm_CG_move 0 [some (.ref 0), some (.int x), some (.int z)] [] Mq _
  have hS := hI.tok.safe
  have hc20 := hS.1
  have hl := hI.tok.lin
  have hL9 := hL
  refine zw_n 1 rfl ?_
  refine zw_get (v := .ref 30) rfl (hC.1 0 (by decide) (by decide) (by decide)) rfl ?_
  refine zw_n 1 rfl ?_
  refine zw_get (v := .ref 26) rfl (hC.1 0 (by decide) (by decide) (by decide)) rfl ?_
  refine zw_callV (as := [.ref 26]) (rest := []) rfl rfl rfl (hC.1 30 (by decide) (by decide) (by decide)) rfl rfl rfl (by decide) (c_copyTok Mq 30 26 (f 30 0) (f 31) (f 32) (f 33) (seg4 (hC.1 30 (by decide) (by decide) (by decide)) (hC.1 31 (by decide) (by decide) (by decide)) (hC.1 32 (by decide) (by decide) (by decide)) (hC.1 33 (by decide) (by decide) (by decide))) (f 26 0) (f 27) (f 28) (f 29) (seg4 (hC.1 26 (by decide) (by decide) (by decide)) (hC.1 27 (by decide) (by decide) (by decide)) (hC.1 28 (by decide) (by decide) (by decide)) (hC.1 29 (by decide) (by decide) (by decide))) (by omega)) (fun rz551 Mz552 hz553 => ?_)
  obtain ⟨hAz548, hBz549, hSz550⟩ := hz553
  rw [hAz548]
  show Zw 4 zm_CG_move 11 [some (.ref 0), some (.int x), some (.int z)] [] Mz552 _
  refine zw_n 2 rfl ?_
  refine zw_get (v := .ref 26) rfl (Sm.at hSz550 (by decide) (hC.1 0 (by decide) (by decide) (by decide))) rfl ?_
  refine zw_n 2 rfl ?_
  refine zw_callV (as := [.int x, .int z]) (rest := [.ref 0]) rfl rfl rfl (Sm.at hSz550 (by decide) (hC.1 26 (by decide) (by decide) (by decide))) rfl rfl rfl (by decide) (c_moveLine Mz552 26 (f 26 0) (f 27) (f 28) (f 29) (seg4 (Sm.at hSz550 (by decide) (hC.1 26 (by decide) (by decide) (by decide))) (Sm.at hSz550 (by decide) (hC.1 27 (by decide) (by decide) (by decide))) (Sm.at hSz550 (by decide) (hC.1 28 (by decide) (by decide) (by decide))) (Sm.at hSz550 (by decide) (hC.1 29 (by decide) (by decide) (by decide)))) hI.tok.safe x z) (fun rz561 Mz562 hz563 => ?_)
  obtain ⟨hAz554, coz555, hBz556, hSz557, h1z558, h2z559, h3z560⟩ := hz563
  rw [hAz554]
  show Zw 4 zm_CG_move 21 [some (.ref 0), some (.int x), some (.int z)] [.int (nI (mvA (f 26 0) (f 28) (f 29) x.toInt z.toInt)), .ref 0] Mz562 _
  refine zw_callV (as := [.int (nI (mvA (f 26 0) (f 28) (f 29) x.toInt z.toInt))]) (rest := []) rfl rfl rfl (Sm.at hSz557 (by decide) (Sm.at hSz550 (by decide) (hC.1 0 (by decide) (by decide) (by decide)))) rfl rfl rfl (by decide) (c_acted Mz562 (fset (fset (fset (fset (fset f 33 (f 29)) 32 (f 28)) 31 (f 27)) 30 (up (f 30) 0 (f 26 0))) 29 coz555) (CC.of (f' := fset (fset (fset (fset (fset f 33 (f 29)) 32 (f 28)) 31 (f 27)) 30 (up (f 30) 0 (f 26 0))) 29 coz555) hC (Sm.tw (Sm.tw Sm.rf hSz550 (by decide)) hSz557 (by decide)) ⟨by decide, by decide⟩ (d1_cons (hBz556.get 3 rfl) (d1_cons (Sm.at hSz557 (by decide) (hBz549.get 0 rfl)) (d1_cons (Sm.at hSz557 (by decide) (hBz549.get 1 rfl)) (d1_cons (Sm.at hSz557 (by decide) (hBz549.get 2 rfl)) (d1_cons (Sm.at hSz557 (by decide) (hBz549.get 3 rfl)) d1_nil))))) (fs_c (fs_c (fs_c (fs_c (fs_c fs_n)))))) hI.hsz hI.hen (nI (mvA (f 26 0) (f 28) (f 29) x.toInt z.toInt))) (fun rz567 Mz568 hz569 => ?_)
  obtain ⟨hAz564, hPz565, hNz566⟩ := hz569
  rw [hAz564]
  show Zw 4 zm_CG_move 24 [some (.ref 0), some (.int x), some (.int z)] [.int (nI (mvA (f 26 0) (f 28) (f 29) x.toInt z.toInt))] Mz568 _
  refine zw_iret rfl rfl ?_
  by_cases hq9 : mvA (f 26 0) (f 28) (f 29) x.toInt z.toInt < 2147483648
  · obtain ⟨hcc9, hsm9⟩ := hPz565 (by rw [nI_toInt hq9]; omega)
    have hb9 := act_tok (f1 := fset (fset (fset (fset (fset f 33 (f 29)) 32 (f 28)) 31 (f 27)) 30 (up (f 30) 0 (f 26 0))) 29 coz555) hI.hen
    exact ⟨rfl, chg (hRem (fset (fset (fset (fset (fset f 33 (f 29)) 32 (f 28)) 31 (f 27)) 30 (up (f 30) 0 (f 26 0))) 29 coz555)), hcc9, Smc.tr (Smc.of (Sm.tw (Sm.tw Sm.rf hSz550 (by decide)) hSz557 (by decide)) (by decide)) hsm9, CInv.mono (CInv.chg (CBase.hrem (⟨hI.tl, hI.tx, hI.gram, TOK.moved hI.tok hq9 h1z558 (fun q hq => by rw [h2z559 q hq, if_pos hq9]), hI.tok.any, hI.grn, hI.mvd, hI.hsz, hI.hen, hI.past, hI.lln, hI.llt, hI.kh, hI.kg, hI.kt, hI.cst, hI.csw, hI.csr, hI.ost, hI.osw, hI.osr, hI.tst, hI.rkn⟩ : CBase L (fset (fset (fset (fset (fset f 33 (f 29)) 32 (f 28)) 31 (f 27)) 30 (up (f 30) 0 (f 26 0))) 29 coz555)) hI.tok)) (Nat.le_succ _), fun _ => ⟨ActS.of hI.hen (act_out (fs_c (fs_c (fs_c (fs_c (fs_c fs_n))))) (by decide)) ⟨rfl, rfl, rfl, rfl⟩, by rw [hb9.1]; rfl, by rw [hb9.2.1]; rfl, by rw [hb9.2.2.1]; rfl, fun q hq => by rw [hb9.2.2.2]; show coz555 q = _; rw [h2z559 q hq, if_pos hq9]⟩, fun hq => absurd hq9 hq⟩
  · obtain rfl := h3z560 hq9
    have hM9 := hNz566 (mvA_neg hq9)
    rw [hM9]
    exact ⟨rfl, fset (fset (fset (fset (fset f 33 (f 29)) 32 (f 28)) 31 (f 27)) 30 (up (f 30) 0 (f 26 0))) 29 (f 29), (CC.of (f' := fset (fset (fset (fset (fset f 33 (f 29)) 32 (f 28)) 31 (f 27)) 30 (up (f 30) 0 (f 26 0))) 29 (f 29)) hC (Sm.tw (Sm.tw Sm.rf hSz550 (by decide)) hSz557 (by decide)) ⟨by decide, by decide⟩ (d1_cons (hBz556.get 3 rfl) (d1_cons (Sm.at hSz557 (by decide) (hBz549.get 0 rfl)) (d1_cons (Sm.at hSz557 (by decide) (hBz549.get 1 rfl)) (d1_cons (Sm.at hSz557 (by decide) (hBz549.get 2 rfl)) (d1_cons (Sm.at hSz557 (by decide) (hBz549.get 3 rfl)) d1_nil))))) (fs_c (fs_c (fs_c (fs_c (fs_c fs_n)))))), Smc.of (Sm.tw (Sm.tw Sm.rf hSz550 (by decide)) hSz557 (by decide)) (by decide), CInv.mono ⟨⟨hI.tl, hI.tx, hI.gram, hI.tok, hI.tok.any, hI.grn, hI.mvd, hI.hsz, hI.hen, hI.past, hI.lln, hI.llt, hI.kh, hI.kg, hI.kt, hI.cst, hI.csw, hI.csr, hI.ost, hI.osw, hI.osr, hI.tst, hI.rkn⟩, hI.cok⟩ (Nat.le_succ _), fun hq => absurd hq hq9, fun _ => Asame.of (fs_c (fs_c (fs_c (fs_c (fs_c fs_n))))) rfl (by decide)⟩
