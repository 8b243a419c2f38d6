set_option maxHeartbeats 4000000 in
set_option maxRecDepth 100000 in
theorem c_copyRul (Mq : zM) (k k2 : Nat) (n em : Nat) (gn al_ it pt tg bd fr af fb : Nat → Nat) (hR : Seg Mq k (rulL k (n, gn, al_, it, pt, tg, bd, em, fr, af, fb))) (n2 em2 : Nat) (gn2 al2 it2 pt2 tg2 bd2 fr2 af2 fb2 : Nat → Nat) (hR2 : Seg Mq k2 (rulL k2 (n2, gn2, al2, it2, pt2, tg2, bd2, em2, fr2, af2, fb2))) (hd : k + 9 < k2 ∨ k2 + 9 < k) : Zm 1 zm_Rules_copyFrom [.ref k, .ref k2] Mq (fun r9 M1 => r9 = none ∧ Seg M1 k (rulL k (n2, gn2, al2, it2, pt2, tg2, bd2, em2, fr2, af2, fb2)) ∧ Sm Mq M1 [k, k + 1, k + 2, k + 3, k + 4, k + 5, k + 6, k + 7, k + 8, k + 9]) := by
  show Zw 1 zm_Rules_copyFrom 0 [some (.ref k), some (.ref k2)] [] Mq _
  refine zw_n 2 rfl ?_
  refine zw_get (v := .int (nI n2)) rfl (hR2.get 0 rfl) rfl ?_
  refine zw_put rfl (hR.get 0 rfl) (rfl) (Nat.le_of_ble_eq_true rfl) ?_
  generalize ez466 : List.set Mq k _ = Mz465
  refine zw_n 2 rfl ?_
  refine zw_get (v := .int (nI em2)) rfl (zat_set ez466 (by omega) (hR2.get 0 rfl)) rfl ?_
  refine zw_put rfl (zat_self ez466 (hR.get 0 rfl)) (rfl) (Nat.le_of_ble_eq_true rfl) ?_
  generalize ez468 : List.set Mz465 k _ = Mz467
  refine zw_n 1 rfl ?_
  refine zw_get (v := .ref (k2 + 1)) rfl (zat_set ez468 (by omega) (zat_set ez466 (by omega) (hR2.get 0 rfl))) rfl ?_
  refine zw_n 2 rfl ?_
  refine zw_get (v := .ref (k + 1)) rfl (zat_self ez468 (zat_self ez466 (hR.get 0 rfl))) rfl ?_
  refine zw_n 2 rfl ?_
  refine zw_get (v := .ref (k + 1)) rfl (zat_self ez468 (zat_self ez466 (hR.get 0 rfl))) rfl ?_
  refine zw_alen rfl (zat_set ez468 (by omega) (zat_set ez466 (by omega) (hR.get 1 rfl))) rfl ?_
  refine zw_cpyi (n := 8) (sp := 0) (dp := 0) rfl (by decide) (zat_set ez468 (by omega) (zat_set ez466 (by omega) (hR2.get 1 rfl))) (zat_set ez468 (by omega) (zat_set ez466 (by omega) (hR.get 1 rfl))) rfl rfl rfl (by omega) (by omega) rfl ?_
  rw [z_cp_all]
  generalize ez470 : List.set Mz467 (k + 1) _ = Mz469
  refine zw_n 1 rfl ?_
  refine zw_get (v := .ref (k2 + 2)) rfl (zat_set ez470 (by omega) (zat_set ez468 (by omega) (zat_set ez466 (by omega) (hR2.get 0 rfl)))) rfl ?_
  refine zw_n 2 rfl ?_
  refine zw_get (v := .ref (k + 2)) rfl (zat_set ez470 (by omega) (zat_self ez468 (zat_self ez466 (hR.get 0 rfl)))) rfl ?_
  refine zw_n 2 rfl ?_
  refine zw_get (v := .ref (k + 2)) rfl (zat_set ez470 (by omega) (zat_self ez468 (zat_self ez466 (hR.get 0 rfl)))) rfl ?_
  refine zw_alen rfl (zat_set ez470 (by omega) (zat_set ez468 (by omega) (zat_set ez466 (by omega) (hR.get 2 rfl)))) rfl ?_
  refine zw_cpyi (n := 8) (sp := 0) (dp := 0) rfl (by decide) (zat_set ez470 (by omega) (zat_set ez468 (by omega) (zat_set ez466 (by omega) (hR2.get 2 rfl)))) (zat_set ez470 (by omega) (zat_set ez468 (by omega) (zat_set ez466 (by omega) (hR.get 2 rfl)))) rfl rfl rfl (by omega) (by omega) rfl ?_
  rw [z_cp_all]
  generalize ez472 : List.set Mz469 (k + 2) _ = Mz471
  refine zw_n 1 rfl ?_
  refine zw_get (v := .ref (k2 + 3)) rfl (zat_set ez472 (by omega) (zat_set ez470 (by omega) (zat_set ez468 (by omega) (zat_set ez466 (by omega) (hR2.get 0 rfl))))) rfl ?_
  refine zw_n 2 rfl ?_
  refine zw_get (v := .ref (k + 3)) rfl (zat_set ez472 (by omega) (zat_set ez470 (by omega) (zat_self ez468 (zat_self ez466 (hR.get 0 rfl))))) rfl ?_
  refine zw_n 2 rfl ?_
  refine zw_get (v := .ref (k + 3)) rfl (zat_set ez472 (by omega) (zat_set ez470 (by omega) (zat_self ez468 (zat_self ez466 (hR.get 0 rfl))))) rfl ?_
  refine zw_alen rfl (zat_set ez472 (by omega) (zat_set ez470 (by omega) (zat_set ez468 (by omega) (zat_set ez466 (by omega) (hR.get 3 rfl))))) rfl ?_
  refine zw_cpyi (n := 32) (sp := 0) (dp := 0) rfl (by decide) (zat_set ez472 (by omega) (zat_set ez470 (by omega) (zat_set ez468 (by omega) (zat_set ez466 (by omega) (hR2.get 3 rfl))))) (zat_set ez472 (by omega) (zat_set ez470 (by omega) (zat_set ez468 (by omega) (zat_set ez466 (by omega) (hR.get 3 rfl))))) rfl rfl rfl (by omega) (by omega) rfl ?_
  rw [z_cp_all]
  generalize ez474 : List.set Mz471 (k + 3) _ = Mz473
  refine zw_n 1 rfl ?_
  refine zw_get (v := .ref (k2 + 4)) rfl (zat_set ez474 (by omega) (zat_set ez472 (by omega) (zat_set ez470 (by omega) (zat_set ez468 (by omega) (zat_set ez466 (by omega) (hR2.get 0 rfl)))))) rfl ?_
  refine zw_n 2 rfl ?_
  refine zw_get (v := .ref (k + 4)) rfl (zat_set ez474 (by omega) (zat_set ez472 (by omega) (zat_set ez470 (by omega) (zat_self ez468 (zat_self ez466 (hR.get 0 rfl)))))) rfl ?_
  refine zw_n 2 rfl ?_
  refine zw_get (v := .ref (k + 4)) rfl (zat_set ez474 (by omega) (zat_set ez472 (by omega) (zat_set ez470 (by omega) (zat_self ez468 (zat_self ez466 (hR.get 0 rfl)))))) rfl ?_
  refine zw_alen rfl (zat_set ez474 (by omega) (zat_set ez472 (by omega) (zat_set ez470 (by omega) (zat_set ez468 (by omega) (zat_set ez466 (by omega) (hR.get 4 rfl)))))) rfl ?_
  refine zw_cpyi (n := 160) (sp := 0) (dp := 0) rfl (by decide) (zat_set ez474 (by omega) (zat_set ez472 (by omega) (zat_set ez470 (by omega) (zat_set ez468 (by omega) (zat_set ez466 (by omega) (hR2.get 4 rfl)))))) (zat_set ez474 (by omega) (zat_set ez472 (by omega) (zat_set ez470 (by omega) (zat_set ez468 (by omega) (zat_set ez466 (by omega) (hR.get 4 rfl)))))) rfl rfl rfl (by omega) (by omega) rfl ?_
  rw [z_cp_all]
  generalize ez476 : List.set Mz473 (k + 4) _ = Mz475
  refine zw_n 1 rfl ?_
  refine zw_get (v := .ref (k2 + 5)) rfl (zat_set ez476 (by omega) (zat_set ez474 (by omega) (zat_set ez472 (by omega) (zat_set ez470 (by omega) (zat_set ez468 (by omega) (zat_set ez466 (by omega) (hR2.get 0 rfl))))))) rfl ?_
  refine zw_n 2 rfl ?_
  refine zw_get (v := .ref (k + 5)) rfl (zat_set ez476 (by omega) (zat_set ez474 (by omega) (zat_set ez472 (by omega) (zat_set ez470 (by omega) (zat_self ez468 (zat_self ez466 (hR.get 0 rfl))))))) rfl ?_
  refine zw_n 2 rfl ?_
  refine zw_get (v := .ref (k + 5)) rfl (zat_set ez476 (by omega) (zat_set ez474 (by omega) (zat_set ez472 (by omega) (zat_set ez470 (by omega) (zat_self ez468 (zat_self ez466 (hR.get 0 rfl))))))) rfl ?_
  refine zw_alen rfl (zat_set ez476 (by omega) (zat_set ez474 (by omega) (zat_set ez472 (by omega) (zat_set ez470 (by omega) (zat_set ez468 (by omega) (zat_set ez466 (by omega) (hR.get 5 rfl))))))) rfl ?_
  refine zw_cpyi (n := 160) (sp := 0) (dp := 0) rfl (by decide) (zat_set ez476 (by omega) (zat_set ez474 (by omega) (zat_set ez472 (by omega) (zat_set ez470 (by omega) (zat_set ez468 (by omega) (zat_set ez466 (by omega) (hR2.get 5 rfl))))))) (zat_set ez476 (by omega) (zat_set ez474 (by omega) (zat_set ez472 (by omega) (zat_set ez470 (by omega) (zat_set ez468 (by omega) (zat_set ez466 (by omega) (hR.get 5 rfl))))))) rfl rfl rfl (by omega) (by omega) rfl ?_
  rw [z_cp_all]
  generalize ez478 : List.set Mz475 (k + 5) _ = Mz477
  refine zw_n 1 rfl ?_
  refine zw_get (v := .ref (k2 + 6)) rfl (zat_set ez478 (by omega) (zat_set ez476 (by omega) (zat_set ez474 (by omega) (zat_set ez472 (by omega) (zat_set ez470 (by omega) (zat_set ez468 (by omega) (zat_set ez466 (by omega) (hR2.get 0 rfl)))))))) rfl ?_
  refine zw_n 2 rfl ?_
  refine zw_get (v := .ref (k + 6)) rfl (zat_set ez478 (by omega) (zat_set ez476 (by omega) (zat_set ez474 (by omega) (zat_set ez472 (by omega) (zat_set ez470 (by omega) (zat_self ez468 (zat_self ez466 (hR.get 0 rfl)))))))) rfl ?_
  refine zw_n 2 rfl ?_
  refine zw_get (v := .ref (k + 6)) rfl (zat_set ez478 (by omega) (zat_set ez476 (by omega) (zat_set ez474 (by omega) (zat_set ez472 (by omega) (zat_set ez470 (by omega) (zat_self ez468 (zat_self ez466 (hR.get 0 rfl)))))))) rfl ?_
  refine zw_alen rfl (zat_set ez478 (by omega) (zat_set ez476 (by omega) (zat_set ez474 (by omega) (zat_set ez472 (by omega) (zat_set ez470 (by omega) (zat_set ez468 (by omega) (zat_set ez466 (by omega) (hR.get 6 rfl)))))))) rfl ?_
  refine zw_cpyi (n := 160) (sp := 0) (dp := 0) rfl (by decide) (zat_set ez478 (by omega) (zat_set ez476 (by omega) (zat_set ez474 (by omega) (zat_set ez472 (by omega) (zat_set ez470 (by omega) (zat_set ez468 (by omega) (zat_set ez466 (by omega) (hR2.get 6 rfl)))))))) (zat_set ez478 (by omega) (zat_set ez476 (by omega) (zat_set ez474 (by omega) (zat_set ez472 (by omega) (zat_set ez470 (by omega) (zat_set ez468 (by omega) (zat_set ez466 (by omega) (hR.get 6 rfl)))))))) rfl rfl rfl (by omega) (by omega) rfl ?_
  rw [z_cp_all]
  generalize ez480 : List.set Mz477 (k + 6) _ = Mz479
  refine zw_n 1 rfl ?_
  refine zw_get (v := .ref (k2 + 7)) rfl (zat_set ez480 (by omega) (zat_set ez478 (by omega) (zat_set ez476 (by omega) (zat_set ez474 (by omega) (zat_set ez472 (by omega) (zat_set ez470 (by omega) (zat_set ez468 (by omega) (zat_set ez466 (by omega) (hR2.get 0 rfl))))))))) rfl ?_
  refine zw_n 2 rfl ?_
  refine zw_get (v := .ref (k + 7)) rfl (zat_set ez480 (by omega) (zat_set ez478 (by omega) (zat_set ez476 (by omega) (zat_set ez474 (by omega) (zat_set ez472 (by omega) (zat_set ez470 (by omega) (zat_self ez468 (zat_self ez466 (hR.get 0 rfl))))))))) rfl ?_
  refine zw_n 2 rfl ?_
  refine zw_get (v := .ref (k + 7)) rfl (zat_set ez480 (by omega) (zat_set ez478 (by omega) (zat_set ez476 (by omega) (zat_set ez474 (by omega) (zat_set ez472 (by omega) (zat_set ez470 (by omega) (zat_self ez468 (zat_self ez466 (hR.get 0 rfl))))))))) rfl ?_
  refine zw_alen rfl (zat_set ez480 (by omega) (zat_set ez478 (by omega) (zat_set ez476 (by omega) (zat_set ez474 (by omega) (zat_set ez472 (by omega) (zat_set ez470 (by omega) (zat_set ez468 (by omega) (zat_set ez466 (by omega) (hR.get 7 rfl))))))))) rfl ?_
  refine zw_cpyl (n := 8) (sp := 0) (dp := 0) rfl (by decide) (zat_set ez480 (by omega) (zat_set ez478 (by omega) (zat_set ez476 (by omega) (zat_set ez474 (by omega) (zat_set ez472 (by omega) (zat_set ez470 (by omega) (zat_set ez468 (by omega) (zat_set ez466 (by omega) (hR2.get 7 rfl))))))))) (zat_set ez480 (by omega) (zat_set ez478 (by omega) (zat_set ez476 (by omega) (zat_set ez474 (by omega) (zat_set ez472 (by omega) (zat_set ez470 (by omega) (zat_set ez468 (by omega) (zat_set ez466 (by omega) (hR.get 7 rfl))))))))) rfl rfl rfl (by omega) (by omega) rfl ?_
  rw [z_cp_all]
  generalize ez482 : List.set Mz479 (k + 7) _ = Mz481
  refine zw_n 1 rfl ?_
  refine zw_get (v := .ref (k2 + 8)) rfl (zat_set ez482 (by omega) (zat_set ez480 (by omega) (zat_set ez478 (by omega) (zat_set ez476 (by omega) (zat_set ez474 (by omega) (zat_set ez472 (by omega) (zat_set ez470 (by omega) (zat_set ez468 (by omega) (zat_set ez466 (by omega) (hR2.get 0 rfl)))))))))) rfl ?_
  refine zw_n 2 rfl ?_
  refine zw_get (v := .ref (k + 8)) rfl (zat_set ez482 (by omega) (zat_set ez480 (by omega) (zat_set ez478 (by omega) (zat_set ez476 (by omega) (zat_set ez474 (by omega) (zat_set ez472 (by omega) (zat_set ez470 (by omega) (zat_self ez468 (zat_self ez466 (hR.get 0 rfl)))))))))) rfl ?_
  refine zw_n 2 rfl ?_
  refine zw_get (v := .ref (k + 8)) rfl (zat_set ez482 (by omega) (zat_set ez480 (by omega) (zat_set ez478 (by omega) (zat_set ez476 (by omega) (zat_set ez474 (by omega) (zat_set ez472 (by omega) (zat_set ez470 (by omega) (zat_self ez468 (zat_self ez466 (hR.get 0 rfl)))))))))) rfl ?_
  refine zw_alen rfl (zat_set ez482 (by omega) (zat_set ez480 (by omega) (zat_set ez478 (by omega) (zat_set ez476 (by omega) (zat_set ez474 (by omega) (zat_set ez472 (by omega) (zat_set ez470 (by omega) (zat_set ez468 (by omega) (zat_set ez466 (by omega) (hR.get 8 rfl)))))))))) rfl ?_
  refine zw_cpyl (n := 32) (sp := 0) (dp := 0) rfl (by decide) (zat_set ez482 (by omega) (zat_set ez480 (by omega) (zat_set ez478 (by omega) (zat_set ez476 (by omega) (zat_set ez474 (by omega) (zat_set ez472 (by omega) (zat_set ez470 (by omega) (zat_set ez468 (by omega) (zat_set ez466 (by omega) (hR2.get 8 rfl)))))))))) (zat_set ez482 (by omega) (zat_set ez480 (by omega) (zat_set ez478 (by omega) (zat_set ez476 (by omega) (zat_set ez474 (by omega) (zat_set ez472 (by omega) (zat_set ez470 (by omega) (zat_set ez468 (by omega) (zat_set ez466 (by omega) (hR.get 8 rfl)))))))))) rfl rfl rfl (by omega) (by omega) rfl ?_
  rw [z_cp_all]
  generalize ez484 : List.set Mz481 (k + 8) _ = Mz483
  refine zw_n 1 rfl ?_
  refine zw_get (v := .ref (k2 + 9)) rfl (zat_set ez484 (by omega) (zat_set ez482 (by omega) (zat_set ez480 (by omega) (zat_set ez478 (by omega) (zat_set ez476 (by omega) (zat_set ez474 (by omega) (zat_set ez472 (by omega) (zat_set ez470 (by omega) (zat_set ez468 (by omega) (zat_set ez466 (by omega) (hR2.get 0 rfl))))))))))) rfl ?_
  refine zw_n 2 rfl ?_
  refine zw_get (v := .ref (k + 9)) rfl (zat_set ez484 (by omega) (zat_set ez482 (by omega) (zat_set ez480 (by omega) (zat_set ez478 (by omega) (zat_set ez476 (by omega) (zat_set ez474 (by omega) (zat_set ez472 (by omega) (zat_set ez470 (by omega) (zat_self ez468 (zat_self ez466 (hR.get 0 rfl))))))))))) rfl ?_
  refine zw_n 2 rfl ?_
  refine zw_get (v := .ref (k + 9)) rfl (zat_set ez484 (by omega) (zat_set ez482 (by omega) (zat_set ez480 (by omega) (zat_set ez478 (by omega) (zat_set ez476 (by omega) (zat_set ez474 (by omega) (zat_set ez472 (by omega) (zat_set ez470 (by omega) (zat_self ez468 (zat_self ez466 (hR.get 0 rfl))))))))))) rfl ?_
  refine zw_alen rfl (zat_set ez484 (by omega) (zat_set ez482 (by omega) (zat_set ez480 (by omega) (zat_set ez478 (by omega) (zat_set ez476 (by omega) (zat_set ez474 (by omega) (zat_set ez472 (by omega) (zat_set ez470 (by omega) (zat_set ez468 (by omega) (zat_set ez466 (by omega) (hR.get 9 rfl))))))))))) rfl ?_
  refine zw_cpyl (n := 160) (sp := 0) (dp := 0) rfl (by decide) (zat_set ez484 (by omega) (zat_set ez482 (by omega) (zat_set ez480 (by omega) (zat_set ez478 (by omega) (zat_set ez476 (by omega) (zat_set ez474 (by omega) (zat_set ez472 (by omega) (zat_set ez470 (by omega) (zat_set ez468 (by omega) (zat_set ez466 (by omega) (hR2.get 9 rfl))))))))))) (zat_set ez484 (by omega) (zat_set ez482 (by omega) (zat_set ez480 (by omega) (zat_set ez478 (by omega) (zat_set ez476 (by omega) (zat_set ez474 (by omega) (zat_set ez472 (by omega) (zat_set ez470 (by omega) (zat_set ez468 (by omega) (zat_set ez466 (by omega) (hR.get 9 rfl))))))))))) rfl rfl rfl (by omega) (by omega) rfl ?_
  rw [z_cp_all]
  generalize ez486 : List.set Mz483 (k + 9) _ = Mz485
  have mz487 : Mz485[k]? = some (.inr (8, [.int (nI n2), .ref (k + 1), .ref (k + 2), .ref (k + 3), .ref (k + 4), .ref (k + 5), .ref (k + 6), .int (nI em2), .ref (k + 7), .ref (k + 8), .ref (k + 9)])) := zat_set ez486 (by omega) (zat_set ez484 (by omega) (zat_set ez482 (by omega) (zat_set ez480 (by omega) (zat_set ez478 (by omega) (zat_set ez476 (by omega) (zat_set ez474 (by omega) (zat_set ez472 (by omega) (zat_set ez470 (by omega) (zat_self ez468 (zat_self ez466 (hR.get 0 rfl)))))))))))
  have mz488 : Mz485[k + 1]? = some (.inl (0, 8, .inl (ai gn2))) := zat_set ez486 (by omega) (zat_set ez484 (by omega) (zat_set ez482 (by omega) (zat_set ez480 (by omega) (zat_set ez478 (by omega) (zat_set ez476 (by omega) (zat_set ez474 (by omega) (zat_set ez472 (by omega) (zat_self ez470 (zat_set ez468 (by omega) (zat_set ez466 (by omega) (hR.get 1 rfl)))))))))))
  have mz489 : Mz485[k + 2]? = some (.inl (0, 8, .inl (ai al2))) := zat_set ez486 (by omega) (zat_set ez484 (by omega) (zat_set ez482 (by omega) (zat_set ez480 (by omega) (zat_set ez478 (by omega) (zat_set ez476 (by omega) (zat_set ez474 (by omega) (zat_self ez472 (zat_set ez470 (by omega) (zat_set ez468 (by omega) (zat_set ez466 (by omega) (hR.get 2 rfl)))))))))))
  have mz490 : Mz485[k + 3]? = some (.inl (0, 32, .inl (ai it2))) := zat_set ez486 (by omega) (zat_set ez484 (by omega) (zat_set ez482 (by omega) (zat_set ez480 (by omega) (zat_set ez478 (by omega) (zat_set ez476 (by omega) (zat_self ez474 (zat_set ez472 (by omega) (zat_set ez470 (by omega) (zat_set ez468 (by omega) (zat_set ez466 (by omega) (hR.get 3 rfl)))))))))))
  have mz491 : Mz485[k + 4]? = some (.inl (0, 160, .inl (ai pt2))) := zat_set ez486 (by omega) (zat_set ez484 (by omega) (zat_set ez482 (by omega) (zat_set ez480 (by omega) (zat_set ez478 (by omega) (zat_self ez476 (zat_set ez474 (by omega) (zat_set ez472 (by omega) (zat_set ez470 (by omega) (zat_set ez468 (by omega) (zat_set ez466 (by omega) (hR.get 4 rfl)))))))))))
  have mz492 : Mz485[k + 5]? = some (.inl (0, 160, .inl (ai tg2))) := zat_set ez486 (by omega) (zat_set ez484 (by omega) (zat_set ez482 (by omega) (zat_set ez480 (by omega) (zat_self ez478 (zat_set ez476 (by omega) (zat_set ez474 (by omega) (zat_set ez472 (by omega) (zat_set ez470 (by omega) (zat_set ez468 (by omega) (zat_set ez466 (by omega) (hR.get 5 rfl)))))))))))
  have mz493 : Mz485[k + 6]? = some (.inl (0, 160, .inl (ai bd2))) := zat_set ez486 (by omega) (zat_set ez484 (by omega) (zat_set ez482 (by omega) (zat_self ez480 (zat_set ez478 (by omega) (zat_set ez476 (by omega) (zat_set ez474 (by omega) (zat_set ez472 (by omega) (zat_set ez470 (by omega) (zat_set ez468 (by omega) (zat_set ez466 (by omega) (hR.get 6 rfl)))))))))))
  have mz494 : Mz485[k + 7]? = some (.inl (1, 8, .inr (.inl (al fr2)))) := zat_set ez486 (by omega) (zat_set ez484 (by omega) (zat_self ez482 (zat_set ez480 (by omega) (zat_set ez478 (by omega) (zat_set ez476 (by omega) (zat_set ez474 (by omega) (zat_set ez472 (by omega) (zat_set ez470 (by omega) (zat_set ez468 (by omega) (zat_set ez466 (by omega) (hR.get 7 rfl)))))))))))
  have mz495 : Mz485[k + 8]? = some (.inl (1, 32, .inr (.inl (al af2)))) := zat_set ez486 (by omega) (zat_self ez484 (zat_set ez482 (by omega) (zat_set ez480 (by omega) (zat_set ez478 (by omega) (zat_set ez476 (by omega) (zat_set ez474 (by omega) (zat_set ez472 (by omega) (zat_set ez470 (by omega) (zat_set ez468 (by omega) (zat_set ez466 (by omega) (hR.get 8 rfl)))))))))))
  have mz496 : Mz485[k + 9]? = some (.inl (1, 160, .inr (.inl (al fb2)))) := zat_self ez486 (zat_set ez484 (by omega) (zat_set ez482 (by omega) (zat_set ez480 (by omega) (zat_set ez478 (by omega) (zat_set ez476 (by omega) (zat_set ez474 (by omega) (zat_set ez472 (by omega) (zat_set ez470 (by omega) (zat_set ez468 (by omega) (zat_set ez466 (by omega) (hR.get 9 rfl)))))))))))
  have mz497 : Mz485[k2]? = some (.inr (8, [.int (nI n2), .ref (k2 + 1), .ref (k2 + 2), .ref (k2 + 3), .ref (k2 + 4), .ref (k2 + 5), .ref (k2 + 6), .int (nI em2), .ref (k2 + 7), .ref (k2 + 8), .ref (k2 + 9)])) := zat_set ez486 (by omega) (zat_set ez484 (by omega) (zat_set ez482 (by omega) (zat_set ez480 (by omega) (zat_set ez478 (by omega) (zat_set ez476 (by omega) (zat_set ez474 (by omega) (zat_set ez472 (by omega) (zat_set ez470 (by omega) (zat_set ez468 (by omega) (zat_set ez466 (by omega) (hR2.get 0 rfl)))))))))))
  have mz498 : Mz485[k2 + 1]? = some (.inl (0, 8, .inl (ai gn2))) := zat_set ez486 (by omega) (zat_set ez484 (by omega) (zat_set ez482 (by omega) (zat_set ez480 (by omega) (zat_set ez478 (by omega) (zat_set ez476 (by omega) (zat_set ez474 (by omega) (zat_set ez472 (by omega) (zat_set ez470 (by omega) (zat_set ez468 (by omega) (zat_set ez466 (by omega) (hR2.get 1 rfl)))))))))))
  have mz499 : Mz485[k2 + 2]? = some (.inl (0, 8, .inl (ai al2))) := zat_set ez486 (by omega) (zat_set ez484 (by omega) (zat_set ez482 (by omega) (zat_set ez480 (by omega) (zat_set ez478 (by omega) (zat_set ez476 (by omega) (zat_set ez474 (by omega) (zat_set ez472 (by omega) (zat_set ez470 (by omega) (zat_set ez468 (by omega) (zat_set ez466 (by omega) (hR2.get 2 rfl)))))))))))
  have mz500 : Mz485[k2 + 3]? = some (.inl (0, 32, .inl (ai it2))) := zat_set ez486 (by omega) (zat_set ez484 (by omega) (zat_set ez482 (by omega) (zat_set ez480 (by omega) (zat_set ez478 (by omega) (zat_set ez476 (by omega) (zat_set ez474 (by omega) (zat_set ez472 (by omega) (zat_set ez470 (by omega) (zat_set ez468 (by omega) (zat_set ez466 (by omega) (hR2.get 3 rfl)))))))))))
  have mz501 : Mz485[k2 + 4]? = some (.inl (0, 160, .inl (ai pt2))) := zat_set ez486 (by omega) (zat_set ez484 (by omega) (zat_set ez482 (by omega) (zat_set ez480 (by omega) (zat_set ez478 (by omega) (zat_set ez476 (by omega) (zat_set ez474 (by omega) (zat_set ez472 (by omega) (zat_set ez470 (by omega) (zat_set ez468 (by omega) (zat_set ez466 (by omega) (hR2.get 4 rfl)))))))))))
  have mz502 : Mz485[k2 + 5]? = some (.inl (0, 160, .inl (ai tg2))) := zat_set ez486 (by omega) (zat_set ez484 (by omega) (zat_set ez482 (by omega) (zat_set ez480 (by omega) (zat_set ez478 (by omega) (zat_set ez476 (by omega) (zat_set ez474 (by omega) (zat_set ez472 (by omega) (zat_set ez470 (by omega) (zat_set ez468 (by omega) (zat_set ez466 (by omega) (hR2.get 5 rfl)))))))))))
  have mz503 : Mz485[k2 + 6]? = some (.inl (0, 160, .inl (ai bd2))) := zat_set ez486 (by omega) (zat_set ez484 (by omega) (zat_set ez482 (by omega) (zat_set ez480 (by omega) (zat_set ez478 (by omega) (zat_set ez476 (by omega) (zat_set ez474 (by omega) (zat_set ez472 (by omega) (zat_set ez470 (by omega) (zat_set ez468 (by omega) (zat_set ez466 (by omega) (hR2.get 6 rfl)))))))))))
  have mz504 : Mz485[k2 + 7]? = some (.inl (1, 8, .inr (.inl (al fr2)))) := zat_set ez486 (by omega) (zat_set ez484 (by omega) (zat_set ez482 (by omega) (zat_set ez480 (by omega) (zat_set ez478 (by omega) (zat_set ez476 (by omega) (zat_set ez474 (by omega) (zat_set ez472 (by omega) (zat_set ez470 (by omega) (zat_set ez468 (by omega) (zat_set ez466 (by omega) (hR2.get 7 rfl)))))))))))
  have mz505 : Mz485[k2 + 8]? = some (.inl (1, 32, .inr (.inl (al af2)))) := zat_set ez486 (by omega) (zat_set ez484 (by omega) (zat_set ez482 (by omega) (zat_set ez480 (by omega) (zat_set ez478 (by omega) (zat_set ez476 (by omega) (zat_set ez474 (by omega) (zat_set ez472 (by omega) (zat_set ez470 (by omega) (zat_set ez468 (by omega) (zat_set ez466 (by omega) (hR2.get 8 rfl)))))))))))
  have mz506 : Mz485[k2 + 9]? = some (.inl (1, 160, .inr (.inl (al fb2)))) := zat_set ez486 (by omega) (zat_set ez484 (by omega) (zat_set ez482 (by omega) (zat_set ez480 (by omega) (zat_set ez478 (by omega) (zat_set ez476 (by omega) (zat_set ez474 (by omega) (zat_set ez472 (by omega) (zat_set ez470 (by omega) (zat_set ez468 (by omega) (zat_set ez466 (by omega) (hR2.get 9 rfl)))))))))))
  have sz507 : Sm Mq Mz485 [k, k + 1, k + 2, k + 3, k + 4, k + 5, k + 6, k + 7, k + 8, k + 9] := Sm.tset (Sm.tset (Sm.tset (Sm.tset (Sm.tset (Sm.tset (Sm.tset (Sm.tset (Sm.tset (Sm.tset (Sm.tset Sm.rf ez466 (by simp)) ez468 (by simp)) ez470 (by simp)) ez472 (by simp)) ez474 (by simp)) ez476 (by simp)) ez478 (by simp)) ez480 (by simp)) ez482 (by simp)) ez484 (by simp)) ez486 (by simp)
  exact zw_vret rfl rfl (⟨rfl, (seg10 mz487 mz488 mz489 mz490 mz491 mz492 mz493 mz494 mz495 mz496), sz507⟩)

set_option maxHeartbeats 4000000 in
set_option maxRecDepth 100000 in
theorem c_remember (Mq : zM) (f : Nat → Nat → Nat) (hC : CC Mq f) (hz : f 50 0 ≤ 10) (he : f 50 1 < 10) : Zm 2 zm_History_remember [.ref 50, .ref 30] Mq (fun r9 M1 => r9 = none ∧ CC M1 (hRem f) ∧ Smc Mq M1) := by
  show Zw 2 zm_History_remember 0 [some (.ref 50), some (.ref 30)] [] Mq _
  obtain ⟨gq, tq, htq, h51, hgq⟩ := hC.2.1
  have hP := past_seg hC (e := f 50 1) he
  refine zw_n 1 rfl ?_
  refine zw_get (v := .ref 51) rfl (hC.1 50 (by decide) (by decide) (by decide)) rfl ?_
  refine zw_n 1 rfl ?_
  refine zw_get (v := .int (nI (f 50 1))) rfl (hC.1 50 (by decide) (by decide) (by decide)) rfl ?_
  refine zw_aald (j := (f 50 1)) rfl h51 htq rfl (by decide) (by omega) (hgq (f 50 1) he) ?_
  refine zw_n 1 rfl ?_
  refine zw_callV (as := [.ref 30]) (rest := []) rfl rfl rfl (hP.get 0 rfl) rfl rfl rfl (by decide) (c_copyTok Mq (52 + 4 * (f 50 1)) 30 (f (52 + 4 * (f 50 1)) 0) (f (52 + 4 * (f 50 1) + 1)) (f (52 + 4 * (f 50 1) + 2)) (f (52 + 4 * (f 50 1) + 3)) (seg4 (hP.get 0 rfl) (hP.get 1 rfl) (hP.get 2 rfl) (hP.get 3 rfl)) (f 30 0) (f 31) (f 32) (f 33) (seg4 (hC.1 30 (by decide) (by decide) (by decide)) (hC.1 31 (by decide) (by decide) (by decide)) (hC.1 32 (by decide) (by decide) (by decide)) (hC.1 33 (by decide) (by decide) (by decide))) (by omega)) (fun rz511 Mz512 hz513 => ?_)
  obtain ⟨hAz508, hBz509, hSz510⟩ := hz513
  rw [hAz508]
  show Zw 2 zm_History_remember 13 [some (.ref 50), some (.ref 30)] [] Mz512 _
  refine zw_n 2 rfl ?_
  refine zw_get (v := .int (nI (f 50 1))) rfl (Sm.at hSz510 (by simp <;> omega) (hC.1 50 (by decide) (by decide) (by decide))) rfl ?_
  refine zw_n 2 rfl ?_
  refine zw_top (na (a := f 50 1) (b := 1) rfl rfl) ?_
  refine zw_n 2 rfl ?_
  refine zw_top (x' := (nI ((f 50 1 + 1) % 10))) (nrem (a := f 50 1 + 1) (b := 10) rfl rfl (by omega) (by decide) (by decide)) ?_
  refine zw_put rfl (Sm.at hSz510 (by simp <;> omega) (hC.1 50 (by decide) (by decide) (by decide))) (rfl) (Nat.le_of_ble_eq_true rfl) ?_
  generalize ez515 : List.set Mz512 50 _ = Mz514
  refine zw_n 2 rfl ?_
  refine zw_get (v := .int (nI (f 50 0))) rfl (zat_self ez515 (Sm.at hSz510 (by simp <;> omega) (hC.1 50 (by decide) (by decide) (by decide)))) rfl ?_
  refine zw_n 2 rfl ?_
  refine zw_top (na (a := f 50 0) (b := 1) rfl rfl) ?_
  refine zw_n 1 rfl ?_
  refine zw_minN (a := (f 50 0) + 1) (b := 10) rfl (by decide) rfl rfl rfl (by omega) (by omega) ?_
  refine zw_put rfl (zat_self ez515 (Sm.at hSz510 (by simp <;> omega) (hC.1 50 (by decide) (by decide) (by decide)))) (rfl) (Nat.le_of_ble_eq_true rfl) ?_
  generalize ez517 : List.set Mz514 50 _ = Mz516
  exact zw_vret rfl rfl (⟨rfl, CC.past5 he hC (Sm.tset (Sm.tset (Sm.tw Sm.rf hSz510 (by simp)) ez515 (by simp)) ez517 (by simp)) (zat_self ez517 (zat_self ez515 (Sm.at hSz510 (by simp <;> omega) (hC.1 50 (by decide) (by decide) (by decide))))) (seg4 (zat_set ez517 (by omega) (zat_set ez515 (by omega) (hBz509.get 0 rfl))) (zat_set ez517 (by omega) (zat_set ez515 (by omega) (hBz509.get 1 rfl))) (zat_set ez517 (by omega) (zat_set ez515 (by omega) (hBz509.get 2 rfl))) (zat_set ez517 (by omega) (zat_set ez515 (by omega) (hBz509.get 3 rfl)))), Smc.of (S := [50, 52 + 4 * (f 50 1), 52 + 4 * (f 50 1) + 1, 52 + 4 * (f 50 1) + 2, 52 + 4 * (f 50 1) + 3]) (Sm.tset (Sm.tset (Sm.tw Sm.rf hSz510 (by simp)) ez515 (by simp)) ez517 (by simp)) (by intro a ha; simp at ha; omega)⟩)

set_option maxHeartbeats 4000000 in
set_option maxRecDepth 100000 in
theorem c_takeBack (Mq : zM) (f : Nat → Nat → Nat) (hC : CC Mq f) (hz : f 50 0 ≤ 10) (he : f 50 1 < 10) (h0 : 0 < f 50 0) : Zm 2 zm_History_takeBack [.ref 50, .ref 26] Mq (fun r9 M1 => r9 = none ∧ CC M1 (hBack f) ∧ Sm Mq M1 [50, 26, 27, 28, 29]) := by
  show Zw 2 zm_History_takeBack 0 [some (.ref 50), some (.ref 26)] [] Mq _
  obtain ⟨gq, tq, htq, h51, hgq⟩ := hC.2.1
  have hP := past_seg hC (e := (f 50 1 + 9) % 10) (by omega)
  refine zw_n 2 rfl ?_
  refine zw_get (v := .int (nI (f 50 1))) rfl (hC.1 50 (by decide) (by decide) (by decide)) rfl ?_
  refine zw_n 2 rfl ?_
  refine zw_top (na (a := f 50 1) (b := 10) rfl rfl) ?_
  refine zw_n 2 rfl ?_
  refine zw_top (ns (a := (f 50 1) + 10) (b := 1) rfl rfl (by omega)) ?_
  refine zw_n 2 rfl ?_
  refine zw_top (x' := (nI ((f 50 1 + 9) % 10))) ((nrem (a := f 50 1 + 10 - 1) (b := 10) rfl rfl (by omega) (by decide) (by decide)).trans (congrArg nI (by omega))) ?_
  refine zw_put rfl (hC.1 50 (by decide) (by decide) (by decide)) (rfl) (Nat.le_of_ble_eq_true rfl) ?_
  generalize ez519 : List.set Mq 50 _ = Mz518
  refine zw_n 2 rfl ?_
  refine zw_get (v := .int (nI (f 50 0))) rfl (zat_self ez519 (hC.1 50 (by decide) (by decide) (by decide))) rfl ?_
  refine zw_n 2 rfl ?_
  refine zw_top (ns (a := f 50 0) (b := 1) rfl rfl (by omega)) ?_
  refine zw_put rfl (zat_self ez519 (hC.1 50 (by decide) (by decide) (by decide))) (rfl) (Nat.le_of_ble_eq_true rfl) ?_
  generalize ez521 : List.set Mz518 50 _ = Mz520
  refine zw_n 2 rfl ?_
  refine zw_get (v := .ref 51) rfl (zat_self ez521 (zat_self ez519 (hC.1 50 (by decide) (by decide) (by decide)))) rfl ?_
  refine zw_n 1 rfl ?_
  refine zw_get (v := .int (nI ((f 50 1 + 9) % 10))) rfl (zat_self ez521 (zat_self ez519 (hC.1 50 (by decide) (by decide) (by decide)))) rfl ?_
  refine zw_aald (j := ((f 50 1 + 9) % 10)) rfl (zat_set ez521 (by decide) (zat_set ez519 (by decide) h51)) htq rfl (by decide) (by omega) (hgq ((f 50 1 + 9) % 10) (by omega)) ?_
  refine zw_callV (as := [.ref (52 + 4 * ((f 50 1 + 9) % 10))]) (rest := []) rfl rfl rfl (zat_set ez521 (by decide) (zat_set ez519 (by decide) (hC.1 26 (by decide) (by decide) (by decide)))) rfl rfl rfl (by decide) (c_copyTok Mz520 26 (52 + 4 * ((f 50 1 + 9) % 10)) (f 26 0) (f 27) (f 28) (f 29) (seg4 (zat_set ez521 (by decide) (zat_set ez519 (by decide) (hC.1 26 (by decide) (by decide) (by decide)))) (zat_set ez521 (by decide) (zat_set ez519 (by decide) (hC.1 27 (by decide) (by decide) (by decide)))) (zat_set ez521 (by decide) (zat_set ez519 (by decide) (hC.1 28 (by decide) (by decide) (by decide)))) (zat_set ez521 (by decide) (zat_set ez519 (by decide) (hC.1 29 (by decide) (by decide) (by decide))))) (f (52 + 4 * ((f 50 1 + 9) % 10)) 0) (f (52 + 4 * ((f 50 1 + 9) % 10) + 1)) (f (52 + 4 * ((f 50 1 + 9) % 10) + 2)) (f (52 + 4 * ((f 50 1 + 9) % 10) + 3)) (seg4 (zat_set ez521 (by omega) (zat_set ez519 (by omega) (hP.get 0 rfl))) (zat_set ez521 (by omega) (zat_set ez519 (by omega) (hP.get 1 rfl))) (zat_set ez521 (by omega) (zat_set ez519 (by omega) (hP.get 2 rfl))) (zat_set ez521 (by omega) (zat_set ez519 (by omega) (hP.get 3 rfl)))) (by omega)) (fun rz525 Mz526 hz527 => ?_)
  obtain ⟨hAz522, hBz523, hSz524⟩ := hz527
  rw [hAz522]
  show Zw 2 zm_History_takeBack 39 [some (.ref 50), some (.ref 26)] [] Mz526 _
  exact zw_vret rfl rfl (⟨rfl, (CC.of (f' := fset (fset (fset (fset (fset f 29 (f (52 + 4 * ((f 50 1 + 9) % 10) + 3))) 28 (f (52 + 4 * ((f 50 1 + 9) % 10) + 2))) 27 (f (52 + 4 * ((f 50 1 + 9) % 10) + 1))) 26 (up (f 26) 0 (f (52 + 4 * ((f 50 1 + 9) % 10)) 0))) 50 (up (up (f 50) 0 ((f 50 0) - 1)) 1 ((f 50 1 + 9) % 10))) hC (Sm.tw (Sm.tset (Sm.tset Sm.rf ez519 (by decide)) ez521 (by decide)) hSz524 (by decide)) ⟨by decide, by decide⟩ (d1_cons (Sm.at hSz524 (by decide) (zat_self ez521 (zat_self ez519 (hC.1 50 (by decide) (by decide) (by decide))))) (d1_cons (hBz523.get 0 rfl) (d1_cons (hBz523.get 1 rfl) (d1_cons (hBz523.get 2 rfl) (d1_cons (hBz523.get 3 rfl) d1_nil))))) (fs_c (fs_c (fs_c (fs_c (fs_c fs_n)))))), Sm.tw (Sm.tset (Sm.tset Sm.rf ez519 (by decide)) ez521 (by decide)) hSz524 (by decide)⟩)

set_option maxHeartbeats 4000000 in
set_option maxRecDepth 100000 in
theorem c_changed (Mq : zM) (f : Nat → Nat → Nat) (hC : CC Mq f) : Zm 0 zm_CG_changed [.ref 0] Mq (fun r9 M1 => r9 = none ∧ CC M1 (chg f) ∧ Sm Mq M1 [134, 34, 0]) := by
  show Zw 0 zm_CG_changed 0 [some (.ref 0)] [] Mq _
  refine zw_n 1 rfl ?_
  refine zw_get (v := .ref 34) rfl (hC.1 0 (by decide) (by decide) (by decide)) rfl ?_
  refine zw_n 1 rfl ?_
  refine zw_put rfl (hC.1 34 (by decide) (by decide) (by decide)) (rfl) (Nat.le_of_ble_eq_true rfl) ?_
  generalize ez529 : List.set Mq 34 _ = Mz528
  refine zw_n 2 rfl ?_
  refine zw_put rfl (zat_set ez529 (by decide) (hC.1 0 (by decide) (by decide) (by decide))) (rfl) (Nat.le_of_ble_eq_true rfl) ?_
  generalize ez531 : List.set Mz528 0 _ = Mz530
  refine zw_n 1 rfl ?_
  refine zw_get (v := .ref 134) rfl (zat_self ez531 (zat_set ez529 (by decide) (hC.1 0 (by decide) (by decide) (by decide)))) rfl ?_
  refine zw_n 1 rfl ?_
  refine zw_put rfl (zat_set ez531 (by decide) (zat_set ez529 (by decide) (hC.1 134 (by decide) (by decide) (by decide)))) (rfl) (Nat.le_of_ble_eq_true rfl) ?_
  generalize ez533 : List.set Mz530 134 _ = Mz532
  refine zw_n 2 rfl ?_
  refine zw_top (x' := nI 4294967294) (by decide) ?_
  refine zw_put rfl (zat_set ez533 (by decide) (zat_self ez531 (zat_set ez529 (by decide) (hC.1 0 (by decide) (by decide) (by decide))))) (rfl) (Nat.le_of_ble_eq_true rfl) ?_
  generalize ez535 : List.set Mz532 0 _ = Mz534
  exact zw_vret rfl rfl (⟨rfl, (CC.of (f' := fset (fset (fset f 0 (up (up (f 0) 16 0) 17 4294967294)) 34 (up (f 34) 2 0)) 134 (up (f 134) 0 0)) hC (Sm.tset (Sm.tset (Sm.tset (Sm.tset Sm.rf ez529 (by decide)) ez531 (by decide)) ez533 (by decide)) ez535 (by decide)) ⟨by decide, by decide⟩ (d1_cons (zat_set ez535 (by decide) (zat_self ez533 (zat_set ez531 (by decide) (zat_set ez529 (by decide) (hC.1 134 (by decide) (by decide) (by decide)))))) (d1_cons (zat_set ez535 (by decide) (zat_set ez533 (by decide) (zat_set ez531 (by decide) (zat_self ez529 (hC.1 34 (by decide) (by decide) (by decide)))))) (d1_cons (zat_self ez535 (zat_set ez533 (by decide) (zat_self ez531 (zat_set ez529 (by decide) (hC.1 0 (by decide) (by decide) (by decide)))))) d1_nil))) (fs_c (fs_c (fs_c fs_n)))), Sm.tset (Sm.tset (Sm.tset (Sm.tset Sm.rf ez529 (by decide)) ez531 (by decide)) ez533 (by decide)) ez535 (by decide)⟩)

set_option maxHeartbeats 4000000 in
set_option maxRecDepth 100000 in
theorem c_acted (Mq : zM) (f : Nat → Nat → Nat) (hC : CC Mq f) (hz : f 50 0 ≤ 10) (he : f 50 1 < 10) (x : Int32) : Zm 3 zm_CG_acted [.ref 0, .int x] Mq (fun r9 M1 => r9 = some (.int x) ∧ (0 ≤ x.toInt → CC M1 (chg (hRem f)) ∧ Smc Mq M1) ∧ (x.toInt < 0 → M1 = Mq)) := by
  show Zw 3 zm_CG_acted 0 [some (.ref 0), some (.int x)] [] Mq _
  refine zw_n 1 rfl ?_
  refine zw_lt0Z (a := x.toInt) rfl (rfl) (fun c1 => ?_) (fun c1 => ?_)
  · -- 1 to 19
    refine zw_n 1 rfl ?_
    exact zw_iret rfl rfl (⟨rfl, fun h => absurd h (by omega), fun _ => rfl⟩)
  · -- 1 to 4
    refine zw_n 1 rfl ?_
    refine zw_get (v := .ref 50) rfl (hC.1 0 (by decide) (by decide) (by decide)) rfl ?_
    refine zw_n 1 rfl ?_
    refine zw_get (v := .ref 30) rfl (hC.1 0 (by decide) (by decide) (by decide)) rfl ?_
    refine zw_callV (as := [.ref 30]) (rest := []) rfl rfl rfl (hC.1 50 (by decide) (by decide) (by decide)) rfl rfl rfl (by decide) (c_remember Mq f hC hz he) (fun rz539 Mz540 hz541 => ?_)
    obtain ⟨hAz536, hBz537, hSz538⟩ := hz541
    rw [hAz536]
    show Zw 3 zm_CG_acted 15 [some (.ref 0), some (.int x)] [] Mz540 _
    refine zw_n 1 rfl ?_
    refine zw_callV (as := []) (rest := []) rfl rfl rfl (hBz537.1 0 (by decide) (by decide) (by decide)) rfl rfl rfl (by decide) (c_changed Mz540 (hRem f) hBz537) (fun rz545 Mz546 hz547 => ?_)
    obtain ⟨hAz542, hBz543, hSz544⟩ := hz547
    rw [hAz542]
    show Zw 3 zm_CG_acted 19 [some (.ref 0), some (.int x)] [] Mz546 _
    refine zw_n 1 rfl ?_
    exact zw_iret rfl rfl (⟨rfl, fun _ => ⟨hBz543, Smc.tr hSz538 (Smc.of hSz544 (by decide))⟩, fun h => absurd h (by omega)⟩)

set_option maxHeartbeats 4000000 in
set_option maxRecDepth 100000 in
theorem c_move (Mq : zM) (f : Nat → Nat → Nat) (L : Nat) (hC : CC Mq f) (hI : CInv L f) (hL : L < 100000) (x z : Int32) : Zm 4 zm_CG_move [.ref 0, .int x, .int z] Mq (fun r9 M1 => r9 = some (.int (nI (mvA (f 26 0) (f 28) (f 29) x.toInt z.toInt))) ∧ ∃ f9, CC M1 f9 ∧ Smc Mq M1 ∧ CInv (L + 1) f9 ∧ (mvA (f 26 0) (f 28) (f 29) x.toInt z.toInt < 2147483648 → ActS f f9 ∧ f9 26 0 = f 26 0 ∧ f9 27 = f 27 ∧ f9 28 = f 28 ∧ ∀ q, q < f 26 0 → f9 29 q = mvC (f 28) (f 29) x.toInt z.toInt q) ∧ (¬ mvA (f 26 0) (f 28) (f 29) x.toInt z.toInt < 2147483648 → Asame f f9)) := by
  show Zw 4 zm_CG_move 0 [some (.ref 0), some (.int x), some (.int z)] [] Mq _
  have hS : SafeT (f 26 0) (f 27) (f 28) (f 29) := hI.tok.safe
  have hc20 := hS.1
  have hl : ∀ q, f 28 q < L := hI.tok.lin
  have hL9 := hL
  refine zw_n 1 rfl ?_
  refine zw_get (v := .ref 30) rfl (hC.1 0 (by decide) (by decide) (by decide)) rfl ?_
  refine zw_n 1 rfl ?_
  refine zw_get (v := .ref 26) rfl (hC.1 0 (by decide) (by decide) (by decide)) rfl ?_
  refine zw_callV (as := [.ref 26]) (rest := []) rfl rfl rfl (hC.1 30 (by decide) (by decide) (by decide)) rfl rfl rfl (by decide) (c_copyTok Mq 30 26 (f 30 0) (f 31) (f 32) (f 33) (seg4 (hC.1 30 (by decide) (by decide) (by decide)) (hC.1 31 (by decide) (by decide) (by decide)) (hC.1 32 (by decide) (by decide) (by decide)) (hC.1 33 (by decide) (by decide) (by decide))) (f 26 0) (f 27) (f 28) (f 29) (seg4 (hC.1 26 (by decide) (by decide) (by decide)) (hC.1 27 (by decide) (by decide) (by decide)) (hC.1 28 (by decide) (by decide) (by decide)) (hC.1 29 (by decide) (by decide) (by decide))) (by omega)) (fun rz551 Mz552 hz553 => ?_)
  obtain ⟨hAz548, hBz549, hSz550⟩ := hz553
  rw [hAz548]
  show Zw 4 zm_CG_move 11 [some (.ref 0), some (.int x), some (.int z)] [] Mz552 _
  refine zw_n 2 rfl ?_
  refine zw_get (v := .ref 26) rfl (Sm.at hSz550 (by decide) (hC.1 0 (by decide) (by decide) (by decide))) rfl ?_
  refine zw_n 2 rfl ?_
  refine zw_callV (as := [.int x, .int z]) (rest := [.ref 0]) rfl rfl rfl (Sm.at hSz550 (by decide) (hC.1 26 (by decide) (by decide) (by decide))) rfl rfl rfl (by decide) (c_moveLine Mz552 26 (f 26 0) (f 27) (f 28) (f 29) (seg4 (Sm.at hSz550 (by decide) (hC.1 26 (by decide) (by decide) (by decide))) (Sm.at hSz550 (by decide) (hC.1 27 (by decide) (by decide) (by decide))) (Sm.at hSz550 (by decide) (hC.1 28 (by decide) (by decide) (by decide))) (Sm.at hSz550 (by decide) (hC.1 29 (by decide) (by decide) (by decide)))) hI.tok.safe x z) (fun rz561 Mz562 hz563 => ?_)
  obtain ⟨hAz554, coz555, hBz556, hSz557, h1z558, h2z559, h3z560⟩ := hz563
  rw [hAz554]
  show Zw 4 zm_CG_move 21 [some (.ref 0), some (.int x), some (.int z)] [.int (nI (mvA (f 26 0) (f 28) (f 29) x.toInt z.toInt)), .ref 0] Mz562 _
  refine zw_callV (as := [.int (nI (mvA (f 26 0) (f 28) (f 29) x.toInt z.toInt))]) (rest := []) rfl rfl rfl (Sm.at hSz557 (by decide) (Sm.at hSz550 (by decide) (hC.1 0 (by decide) (by decide) (by decide)))) rfl rfl rfl (by decide) (c_acted Mz562 (fset (fset (fset (fset (fset f 33 (f 29)) 32 (f 28)) 31 (f 27)) 30 (up (f 30) 0 (f 26 0))) 29 coz555) (CC.of (f' := fset (fset (fset (fset (fset f 33 (f 29)) 32 (f 28)) 31 (f 27)) 30 (up (f 30) 0 (f 26 0))) 29 coz555) hC (Sm.tw (Sm.tw Sm.rf hSz550 (by decide)) hSz557 (by decide)) ⟨by decide, by decide⟩ (d1_cons (hBz556.get 3 rfl) (d1_cons (Sm.at hSz557 (by decide) (hBz549.get 0 rfl)) (d1_cons (Sm.at hSz557 (by decide) (hBz549.get 1 rfl)) (d1_cons (Sm.at hSz557 (by decide) (hBz549.get 2 rfl)) (d1_cons (Sm.at hSz557 (by decide) (hBz549.get 3 rfl)) d1_nil))))) (fs_c (fs_c (fs_c (fs_c (fs_c fs_n)))))) hI.hsz hI.hen (nI (mvA (f 26 0) (f 28) (f 29) x.toInt z.toInt))) (fun rz567 Mz568 hz569 => ?_)
  obtain ⟨hAz564, hPz565, hNz566⟩ := hz569
  rw [hAz564]
  show Zw 4 zm_CG_move 24 [some (.ref 0), some (.int x), some (.int z)] [.int (nI (mvA (f 26 0) (f 28) (f 29) x.toInt z.toInt))] Mz568 _
  refine zw_iret rfl rfl ?_
  by_cases hq9 : mvA (f 26 0) (f 28) (f 29) x.toInt z.toInt < 2147483648
  · obtain ⟨hcc9, hsm9⟩ := hPz565 (by rw [nI_toInt hq9]; omega)
    have hb9 := act_tok (f1 := fset (fset (fset (fset (fset f 33 (f 29)) 32 (f 28)) 31 (f 27)) 30 (up (f 30) 0 (f 26 0))) 29 coz555) hI.hen
    exact ⟨rfl, chg (hRem (fset (fset (fset (fset (fset f 33 (f 29)) 32 (f 28)) 31 (f 27)) 30 (up (f 30) 0 (f 26 0))) 29 coz555)), hcc9, Smc.tr (Smc.of (S := [29, 30, 31, 32, 33]) (Sm.tw (Sm.tw Sm.rf hSz550 (by decide)) hSz557 (by decide)) (by decide)) hsm9, CInv.mono (CInv.chg (CBase.hrem (⟨hI.tl, hI.tx, hI.gram, TOK.moved hI.tok hq9 h1z558 (fun q hq => (h2z559 q hq).trans (if_pos hq9)), hI.tok.any, hI.grn, hI.mvd, hI.hsz, hI.hen, hI.past, hI.lln, hI.kh, hI.kg, hI.kt, hI.cst, hI.csw, hI.csr, hI.ost, hI.osw, hI.osr, hI.tst, hI.rkn, hI.fnd, hI.ofs⟩ : CBase L (fset (fset (fset (fset (fset f 33 (f 29)) 32 (f 28)) 31 (f 27)) 30 (up (f 30) 0 (f 26 0))) 29 coz555)) hI.tok)) (Nat.le_succ _), fun _ => ⟨ActS.of hI.hen (act_out (fs_c (fs_c (fs_c (fs_c (fs_c fs_n))))) (by decide)) ⟨rfl, rfl, rfl, rfl⟩, by rw [hb9.1]; rfl, by rw [hb9.2.1]; rfl, by rw [hb9.2.2.1]; rfl, fun q hq => by rw [hb9.2.2.2]; exact (h2z559 q hq).trans (if_pos hq9)⟩, fun hq => absurd hq9 hq⟩
  · obtain rfl := h3z560 hq9
    have hM9 := hNz566 (mvA_neg hc20 hq9)
    rw [hM9]
    exact ⟨rfl, fset (fset (fset (fset (fset f 33 (f 29)) 32 (f 28)) 31 (f 27)) 30 (up (f 30) 0 (f 26 0))) 29 (f 29), (CC.of (f' := fset (fset (fset (fset (fset f 33 (f 29)) 32 (f 28)) 31 (f 27)) 30 (up (f 30) 0 (f 26 0))) 29 (f 29)) hC (Sm.tw (Sm.tw Sm.rf hSz550 (by decide)) hSz557 (by decide)) ⟨by decide, by decide⟩ (d1_cons (hBz556.get 3 rfl) (d1_cons (Sm.at hSz557 (by decide) (hBz549.get 0 rfl)) (d1_cons (Sm.at hSz557 (by decide) (hBz549.get 1 rfl)) (d1_cons (Sm.at hSz557 (by decide) (hBz549.get 2 rfl)) (d1_cons (Sm.at hSz557 (by decide) (hBz549.get 3 rfl)) d1_nil))))) (fs_c (fs_c (fs_c (fs_c (fs_c fs_n)))))), (Smc.of (S := [29, 30, 31, 32, 33]) (Sm.tw (Sm.tw Sm.rf hSz550 (by decide)) hSz557 (by decide)) (by decide)), CInv.mono ⟨⟨hI.tl, hI.tx, hI.gram, hI.tok, hI.tok.any, hI.grn, hI.mvd, hI.hsz, hI.hen, hI.past, hI.lln, hI.kh, hI.kg, hI.kt, hI.cst, hI.csw, hI.csr, hI.ost, hI.osw, hI.osr, hI.tst, hI.rkn, hI.fnd, hI.ofs⟩, hI.cok, hI.blm, hI.tre, hI.rep⟩ (Nat.le_succ _), fun hq => absurd hq hq9, fun _ => Asame.of1 rfl (fs_c (fs_c (fs_c (fs_c (fs_c fs_n))))) rfl (by decide)⟩

set_option maxHeartbeats 4000000 in
set_option maxRecDepth 100000 in
theorem c_takeNo9 (Mq : zM) (f : Nat → Nat → Nat) (L : Nat) (hC : CC Mq f) (hI : CInv L f) (hL : L < 100000) (x : Int32) (hx : ¬ (0 ≤ x.toInt ∧ x.toInt < f 26 0)) : Zm 4 zm_CG_take [.ref 0, .int x] Mq (fun r9 M1 => r9 = some (.int (-2)) ∧ ∃ f9, CC M1 f9 ∧ Smc Mq M1 ∧ CInv (L + 1) f9 ∧ Asame f f9) := by
  show Zw 4 zm_CG_take 0 [some (.ref 0), some (.int x)] [] Mq _
  have hS : SafeT (f 26 0) (f 27) (f 28) (f 29) := hI.tok.safe
  have hc20 := hS.1
  have hl : ∀ q, f 28 q < L := hI.tok.lin
  have hL9 := hL
  refine zw_n 1 rfl ?_
  refine zw_get (v := .ref 30) rfl (hC.1 0 (by decide) (by decide) (by decide)) rfl ?_
  refine zw_n 1 rfl ?_
  refine zw_get (v := .ref 26) rfl (hC.1 0 (by decide) (by decide) (by decide)) rfl ?_
  refine zw_callV (as := [.ref 26]) (rest := []) rfl rfl rfl (hC.1 30 (by decide) (by decide) (by decide)) rfl rfl rfl (by decide) (c_copyTok Mq 30 26 (f 30 0) (f 31) (f 32) (f 33) (seg4 (hC.1 30 (by decide) (by decide) (by decide)) (hC.1 31 (by decide) (by decide) (by decide)) (hC.1 32 (by decide) (by decide) (by decide)) (hC.1 33 (by decide) (by decide) (by decide))) (f 26 0) (f 27) (f 28) (f 29) (seg4 (hC.1 26 (by decide) (by decide) (by decide)) (hC.1 27 (by decide) (by decide) (by decide)) (hC.1 28 (by decide) (by decide) (by decide)) (hC.1 29 (by decide) (by decide) (by decide))) (by omega)) (fun rz573 Mz574 hz575 => ?_)
  obtain ⟨hAz570, hBz571, hSz572⟩ := hz575
  rw [hAz570]
  show Zw 4 zm_CG_take 11 [some (.ref 0), some (.int x)] [] Mz574 _
  refine zw_n 2 rfl ?_
  refine zw_get (v := .ref 26) rfl (Sm.at hSz572 (by decide) (hC.1 0 (by decide) (by decide) (by decide))) rfl ?_
  refine zw_n 1 rfl ?_
  refine zw_callV (as := [.int x]) (rest := [.ref 0]) rfl rfl rfl (Sm.at hSz572 (by decide) (hC.1 26 (by decide) (by decide) (by decide))) rfl rfl rfl (by decide) (c_takeNo Mz574 26 (f 26 0) (f 27) (f 28) (f 29) (seg4 (Sm.at hSz572 (by decide) (hC.1 26 (by decide) (by decide) (by decide))) (Sm.at hSz572 (by decide) (hC.1 27 (by decide) (by decide) (by decide))) (Sm.at hSz572 (by decide) (hC.1 28 (by decide) (by decide) (by decide))) (Sm.at hSz572 (by decide) (hC.1 29 (by decide) (by decide) (by decide)))) hI.tok.safe x hx) (fun rz576 Mz577 hz578 => ?_)
  rw [hz578.1, hz578.2]
  show Zw 4 zm_CG_take 20 [some (.ref 0), some (.int x)] [.int (-2), .ref 0] Mz574 _
  refine zw_callV (as := [.int (-2)]) (rest := []) rfl rfl rfl (Sm.at hSz572 (by decide) (hC.1 0 (by decide) (by decide) (by decide))) rfl rfl rfl (by decide) (c_acted Mz574 (fset (fset (fset (fset f 33 (f 29)) 32 (f 28)) 31 (f 27)) 30 (up (f 30) 0 (f 26 0))) (CC.of (f' := fset (fset (fset (fset f 33 (f 29)) 32 (f 28)) 31 (f 27)) 30 (up (f 30) 0 (f 26 0))) hC (Sm.trans Sm.rf hSz572) ⟨by decide, by decide⟩ (d1_cons (hBz571.get 0 rfl) (d1_cons (hBz571.get 1 rfl) (d1_cons (hBz571.get 2 rfl) (d1_cons (hBz571.get 3 rfl) d1_nil)))) (fs_c (fs_c (fs_c (fs_c fs_n))))) hI.hsz hI.hen (-2)) (fun rz582 Mz583 hz584 => ?_)
  obtain ⟨hAz579, hPz580, hNz581⟩ := hz584
  rw [hAz579]
  show Zw 4 zm_CG_take 23 [some (.ref 0), some (.int x)] [.int (-2)] Mz583 _
  refine zw_iret rfl rfl ?_
  have hM9 := hNz581 (by decide)
  rw [hM9]
  exact ⟨rfl, fset (fset (fset (fset f 33 (f 29)) 32 (f 28)) 31 (f 27)) 30 (up (f 30) 0 (f 26 0)), (CC.of (f' := fset (fset (fset (fset f 33 (f 29)) 32 (f 28)) 31 (f 27)) 30 (up (f 30) 0 (f 26 0))) hC (Sm.trans Sm.rf hSz572) ⟨by decide, by decide⟩ (d1_cons (hBz571.get 0 rfl) (d1_cons (hBz571.get 1 rfl) (d1_cons (hBz571.get 2 rfl) (d1_cons (hBz571.get 3 rfl) d1_nil)))) (fs_c (fs_c (fs_c (fs_c fs_n))))), (Smc.of (S := [30, 31, 32, 33]) (Sm.trans Sm.rf hSz572) (by decide)), CInv.mono ⟨⟨hI.tl, hI.tx, hI.gram, hI.tok, hI.tok.any, hI.grn, hI.mvd, hI.hsz, hI.hen, hI.past, hI.lln, hI.kh, hI.kg, hI.kt, hI.cst, hI.csw, hI.csr, hI.ost, hI.osw, hI.osr, hI.tst, hI.rkn, hI.fnd, hI.ofs⟩, hI.cok, hI.blm, hI.tre, hI.rep⟩ (Nat.le_succ _), Asame.of (fs_c (fs_c (fs_c (fs_c fs_n)))) rfl (by decide)⟩

set_option maxHeartbeats 4000000 in
set_option maxRecDepth 100000 in
theorem c_takeOk9 (Mq : zM) (f : Nat → Nat → Nat) (L : Nat) (hC : CC Mq f) (hI : CInv L f) (hL : L < 100000) (x : Nat) (hx : x < f 26 0) : Zm 4 zm_CG_take [.ref 0, .int (nI x)] Mq (fun r9 M1 => r9 = some (.int (nI (f 26 0 - 1))) ∧ ∃ f9, CC M1 f9 ∧ Smc Mq M1 ∧ CInv (L + 1) f9 ∧ ActS f f9 ∧ f9 26 0 = f 26 0 - 1 ∧ ∀ q, q < f 26 0 - 1 → f9 27 q = tkF x (f 27) q ∧ f9 28 q = tkF x (f 28) q ∧ f9 29 q = tkF x (f 29) q) := by
  show Zw 4 zm_CG_take 0 [some (.ref 0), some (.int (nI x))] [] Mq _
  have hS : SafeT (f 26 0) (f 27) (f 28) (f 29) := hI.tok.safe
  have hc20 := hS.1
  have hl : ∀ q, f 28 q < L := hI.tok.lin
  have hL9 := hL
  refine zw_n 1 rfl ?_
  refine zw_get (v := .ref 30) rfl (hC.1 0 (by decide) (by decide) (by decide)) rfl ?_
  refine zw_n 1 rfl ?_
  refine zw_get (v := .ref 26) rfl (hC.1 0 (by decide) (by decide) (by decide)) rfl ?_
  refine zw_callV (as := [.ref 26]) (rest := []) rfl rfl rfl (hC.1 30 (by decide) (by decide) (by decide)) rfl rfl rfl (by decide) (c_copyTok Mq 30 26 (f 30 0) (f 31) (f 32) (f 33) (seg4 (hC.1 30 (by decide) (by decide) (by decide)) (hC.1 31 (by decide) (by decide) (by decide)) (hC.1 32 (by decide) (by decide) (by decide)) (hC.1 33 (by decide) (by decide) (by decide))) (f 26 0) (f 27) (f 28) (f 29) (seg4 (hC.1 26 (by decide) (by decide) (by decide)) (hC.1 27 (by decide) (by decide) (by decide)) (hC.1 28 (by decide) (by decide) (by decide)) (hC.1 29 (by decide) (by decide) (by decide))) (by omega)) (fun rz588 Mz589 hz590 => ?_)
  obtain ⟨hAz585, hBz586, hSz587⟩ := hz590
  rw [hAz585]
  show Zw 4 zm_CG_take 11 [some (.ref 0), some (.int (nI x))] [] Mz589 _
  refine zw_n 2 rfl ?_
  refine zw_get (v := .ref 26) rfl (Sm.at hSz587 (by decide) (hC.1 0 (by decide) (by decide) (by decide))) rfl ?_
  refine zw_n 1 rfl ?_
  refine zw_callV (as := [.int (nI x)]) (rest := [.ref 0]) rfl rfl rfl (Sm.at hSz587 (by decide) (hC.1 26 (by decide) (by decide) (by decide))) rfl rfl rfl (by decide) (c_takeOk Mz589 26 (f 26 0) (f 27) (f 28) (f 29) (seg4 (Sm.at hSz587 (by decide) (hC.1 26 (by decide) (by decide) (by decide))) (Sm.at hSz587 (by decide) (hC.1 27 (by decide) (by decide) (by decide))) (Sm.at hSz587 (by decide) (hC.1 28 (by decide) (by decide) (by decide))) (Sm.at hSz587 (by decide) (hC.1 29 (by decide) (by decide) (by decide)))) hI.tok.safe x hx) (fun rz600 Mz601 hz602 => ?_)
  obtain ⟨hAz599, sgz591, liz592, coz593, hBz594, hSz595, hFz596, hTz597, hLz598⟩ := hz602
  rw [hAz599]
  show Zw 4 zm_CG_take 20 [some (.ref 0), some (.int (nI x))] [.int (nI (f 26 0 - 1)), .ref 0] Mz601 _
  refine zw_callV (as := [.int (nI (f 26 0 - 1))]) (rest := []) rfl rfl rfl (Sm.at hSz595 (by decide) (Sm.at hSz587 (by decide) (hC.1 0 (by decide) (by decide) (by decide)))) rfl rfl rfl (by decide) (c_acted Mz601 (fset (fset (fset (fset (fset (fset (fset (fset f 33 (f 29)) 32 (f 28)) 31 (f 27)) 30 (up (f 30) 0 (f 26 0))) 29 coz593) 28 liz592) 27 sgz591) 26 (up (f 26) 0 (f 26 0 - 1))) (CC.of (f' := fset (fset (fset (fset (fset (fset (fset (fset f 33 (f 29)) 32 (f 28)) 31 (f 27)) 30 (up (f 30) 0 (f 26 0))) 29 coz593) 28 liz592) 27 sgz591) 26 (up (f 26) 0 (f 26 0 - 1))) hC (Sm.tw (Sm.tw Sm.rf hSz587 (by decide)) hSz595 (by decide)) ⟨by decide, by decide⟩ (d1_cons (hBz594.get 0 rfl) (d1_cons (hBz594.get 1 rfl) (d1_cons (hBz594.get 2 rfl) (d1_cons (hBz594.get 3 rfl) (d1_cons (Sm.at hSz595 (by decide) (hBz586.get 0 rfl)) (d1_cons (Sm.at hSz595 (by decide) (hBz586.get 1 rfl)) (d1_cons (Sm.at hSz595 (by decide) (hBz586.get 2 rfl)) (d1_cons (Sm.at hSz595 (by decide) (hBz586.get 3 rfl)) d1_nil)))))))) (fs_c (fs_c (fs_c (fs_c (fs_c (fs_c (fs_c (fs_c fs_n))))))))) hI.hsz hI.hen (nI (f 26 0 - 1))) (fun rz606 Mz607 hz608 => ?_)
  obtain ⟨hAz603, hPz604, hNz605⟩ := hz608
  rw [hAz603]
  show Zw 4 zm_CG_take 23 [some (.ref 0), some (.int (nI x))] [.int (nI (f 26 0 - 1))] Mz607 _
  refine zw_iret rfl rfl ?_
  obtain ⟨hcc9, hsm9⟩ := hPz604 (by rw [nI_toInt (by omega)]; omega)
  have hb9 := act_tok (f1 := fset (fset (fset (fset (fset (fset (fset (fset f 33 (f 29)) 32 (f 28)) 31 (f 27)) 30 (up (f 30) 0 (f 26 0))) 29 coz593) 28 liz592) 27 sgz591) 26 (up (f 26) 0 (f 26 0 - 1))) hI.hen
  exact ⟨rfl, chg (hRem (fset (fset (fset (fset (fset (fset (fset (fset f 33 (f 29)) 32 (f 28)) 31 (f 27)) 30 (up (f 30) 0 (f 26 0))) 29 coz593) 28 liz592) 27 sgz591) 26 (up (f 26) 0 (f 26 0 - 1)))), hcc9, Smc.tr (Smc.of (S := [26, 27, 28, 29, 30, 31, 32, 33]) (Sm.tw (Sm.tw Sm.rf hSz587 (by decide)) hSz595 (by decide)) (by decide)) hsm9, CInv.mono (CInv.chg (CBase.hrem (⟨hI.tl, hI.tx, hI.gram, TOK.taken hI.tok hx hFz596 (hLz598 L hl) hTz597, hI.tok.any, hI.grn, hI.mvd, hI.hsz, hI.hen, hI.past, hI.lln, hI.kh, hI.kg, hI.kt, hI.cst, hI.csw, hI.csr, hI.ost, hI.osw, hI.osr, hI.tst, hI.rkn, hI.fnd, hI.ofs⟩ : CBase L (fset (fset (fset (fset (fset (fset (fset (fset f 33 (f 29)) 32 (f 28)) 31 (f 27)) 30 (up (f 30) 0 (f 26 0))) 29 coz593) 28 liz592) 27 sgz591) 26 (up (f 26) 0 (f 26 0 - 1)))) hI.tok)) (Nat.le_succ _), ActS.of hI.hen (act_out (fs_c (fs_c (fs_c (fs_c (fs_c (fs_c (fs_c (fs_c fs_n)))))))) (by decide)) ⟨rfl, rfl, rfl, rfl⟩, by rw [hb9.1]; rfl, fun q hq => by rw [hb9.2.1, hb9.2.2.1, hb9.2.2.2]; exact hTz597 q hq⟩

set_option maxHeartbeats 4000000 in
set_option maxRecDepth 100000 in
theorem c_changeA9 (Mq : zM) (f : Nat → Nat → Nat) (L : Nat) (hC : CC Mq f) (hI : CInv L f) (hL : L < 100000) (x z : Int32) (hz : ¬ (33 ≤ z.toInt ∧ z.toInt ≤ 126)) : Zm 4 zm_CG_change [.ref 0, .int x, .int z] Mq (fun r9 M1 => r9 = some (.int (-1)) ∧ ∃ f9, CC M1 f9 ∧ Smc Mq M1 ∧ CInv (L + 1) f9 ∧ Asame f f9) := by
  show Zw 4 zm_CG_change 0 [some (.ref 0), some (.int x), some (.int z)] [] Mq _
  have hS : SafeT (f 26 0) (f 27) (f 28) (f 29) := hI.tok.safe
  have hc20 := hS.1
  have hl : ∀ q, f 28 q < L := hI.tok.lin
  have hL9 := hL
  refine zw_n 1 rfl ?_
  refine zw_get (v := .ref 30) rfl (hC.1 0 (by decide) (by decide) (by decide)) rfl ?_
  refine zw_n 1 rfl ?_
  refine zw_get (v := .ref 26) rfl (hC.1 0 (by decide) (by decide) (by decide)) rfl ?_
  refine zw_callV (as := [.ref 26]) (rest := []) rfl rfl rfl (hC.1 30 (by decide) (by decide) (by decide)) rfl rfl rfl (by decide) (c_copyTok Mq 30 26 (f 30 0) (f 31) (f 32) (f 33) (seg4 (hC.1 30 (by decide) (by decide) (by decide)) (hC.1 31 (by decide) (by decide) (by decide)) (hC.1 32 (by decide) (by decide) (by decide)) (hC.1 33 (by decide) (by decide) (by decide))) (f 26 0) (f 27) (f 28) (f 29) (seg4 (hC.1 26 (by decide) (by decide) (by decide)) (hC.1 27 (by decide) (by decide) (by decide)) (hC.1 28 (by decide) (by decide) (by decide)) (hC.1 29 (by decide) (by decide) (by decide))) (by omega)) (fun rz612 Mz613 hz614 => ?_)
  obtain ⟨hAz609, hBz610, hSz611⟩ := hz614
  rw [hAz609]
  show Zw 4 zm_CG_change 11 [some (.ref 0), some (.int x), some (.int z)] [] Mz613 _
  refine zw_n 2 rfl ?_
  refine zw_get (v := .ref 26) rfl (Sm.at hSz611 (by decide) (hC.1 0 (by decide) (by decide) (by decide))) rfl ?_
  refine zw_n 2 rfl ?_
  refine zw_callV (as := [.int x, .int z]) (rest := [.ref 0]) rfl rfl rfl (Sm.at hSz611 (by decide) (hC.1 26 (by decide) (by decide) (by decide))) rfl rfl rfl (by decide) (c_changeA Mz613 26 (f 26 0) (f 27) (f 28) (f 29) (seg4 (Sm.at hSz611 (by decide) (hC.1 26 (by decide) (by decide) (by decide))) (Sm.at hSz611 (by decide) (hC.1 27 (by decide) (by decide) (by decide))) (Sm.at hSz611 (by decide) (hC.1 28 (by decide) (by decide) (by decide))) (Sm.at hSz611 (by decide) (hC.1 29 (by decide) (by decide) (by decide)))) hI.tok.safe x z hz) (fun rz615 Mz616 hz617 => ?_)
  rw [hz617.1, hz617.2]
  show Zw 4 zm_CG_change 21 [some (.ref 0), some (.int x), some (.int z)] [.int (-1), .ref 0] Mz613 _
  refine zw_callV (as := [.int (-1)]) (rest := []) rfl rfl rfl (Sm.at hSz611 (by decide) (hC.1 0 (by decide) (by decide) (by decide))) rfl rfl rfl (by decide) (c_acted Mz613 (fset (fset (fset (fset f 33 (f 29)) 32 (f 28)) 31 (f 27)) 30 (up (f 30) 0 (f 26 0))) (CC.of (f' := fset (fset (fset (fset f 33 (f 29)) 32 (f 28)) 31 (f 27)) 30 (up (f 30) 0 (f 26 0))) hC (Sm.trans Sm.rf hSz611) ⟨by decide, by decide⟩ (d1_cons (hBz610.get 0 rfl) (d1_cons (hBz610.get 1 rfl) (d1_cons (hBz610.get 2 rfl) (d1_cons (hBz610.get 3 rfl) d1_nil)))) (fs_c (fs_c (fs_c (fs_c fs_n))))) hI.hsz hI.hen (-1)) (fun rz621 Mz622 hz623 => ?_)
  obtain ⟨hAz618, hPz619, hNz620⟩ := hz623
  rw [hAz618]
  show Zw 4 zm_CG_change 24 [some (.ref 0), some (.int x), some (.int z)] [.int (-1)] Mz622 _
  refine zw_iret rfl rfl ?_
  have hM9 := hNz620 (by decide)
  rw [hM9]
  exact ⟨rfl, fset (fset (fset (fset f 33 (f 29)) 32 (f 28)) 31 (f 27)) 30 (up (f 30) 0 (f 26 0)), (CC.of (f' := fset (fset (fset (fset f 33 (f 29)) 32 (f 28)) 31 (f 27)) 30 (up (f 30) 0 (f 26 0))) hC (Sm.trans Sm.rf hSz611) ⟨by decide, by decide⟩ (d1_cons (hBz610.get 0 rfl) (d1_cons (hBz610.get 1 rfl) (d1_cons (hBz610.get 2 rfl) (d1_cons (hBz610.get 3 rfl) d1_nil)))) (fs_c (fs_c (fs_c (fs_c fs_n))))), (Smc.of (S := [30, 31, 32, 33]) (Sm.trans Sm.rf hSz611) (by decide)), CInv.mono ⟨⟨hI.tl, hI.tx, hI.gram, hI.tok, hI.tok.any, hI.grn, hI.mvd, hI.hsz, hI.hen, hI.past, hI.lln, hI.kh, hI.kg, hI.kt, hI.cst, hI.csw, hI.csr, hI.ost, hI.osw, hI.osr, hI.tst, hI.rkn, hI.fnd, hI.ofs⟩, hI.cok, hI.blm, hI.tre, hI.rep⟩ (Nat.le_succ _), Asame.of (fs_c (fs_c (fs_c (fs_c fs_n)))) rfl (by decide)⟩

set_option maxHeartbeats 4000000 in
set_option maxRecDepth 100000 in
theorem c_changeB9 (Mq : zM) (f : Nat → Nat → Nat) (L : Nat) (hC : CC Mq f) (hI : CInv L f) (hL : L < 100000) (x z : Int32) (hz : 33 ≤ z.toInt ∧ z.toInt ≤ 126) (hx : ¬ (0 ≤ x.toInt ∧ x.toInt < f 26 0)) : Zm 4 zm_CG_change [.ref 0, .int x, .int z] Mq (fun r9 M1 => r9 = some (.int (-2)) ∧ ∃ f9, CC M1 f9 ∧ Smc Mq M1 ∧ CInv (L + 1) f9 ∧ Asame f f9) := by
  show Zw 4 zm_CG_change 0 [some (.ref 0), some (.int x), some (.int z)] [] Mq _
  have hS : SafeT (f 26 0) (f 27) (f 28) (f 29) := hI.tok.safe
  have hc20 := hS.1
  have hl : ∀ q, f 28 q < L := hI.tok.lin
  have hL9 := hL
  refine zw_n 1 rfl ?_
  refine zw_get (v := .ref 30) rfl (hC.1 0 (by decide) (by decide) (by decide)) rfl ?_
  refine zw_n 1 rfl ?_
  refine zw_get (v := .ref 26) rfl (hC.1 0 (by decide) (by decide) (by decide)) rfl ?_
  refine zw_callV (as := [.ref 26]) (rest := []) rfl rfl rfl (hC.1 30 (by decide) (by decide) (by decide)) rfl rfl rfl (by decide) (c_copyTok Mq 30 26 (f 30 0) (f 31) (f 32) (f 33) (seg4 (hC.1 30 (by decide) (by decide) (by decide)) (hC.1 31 (by decide) (by decide) (by decide)) (hC.1 32 (by decide) (by decide) (by decide)) (hC.1 33 (by decide) (by decide) (by decide))) (f 26 0) (f 27) (f 28) (f 29) (seg4 (hC.1 26 (by decide) (by decide) (by decide)) (hC.1 27 (by decide) (by decide) (by decide)) (hC.1 28 (by decide) (by decide) (by decide)) (hC.1 29 (by decide) (by decide) (by decide))) (by omega)) (fun rz627 Mz628 hz629 => ?_)
  obtain ⟨hAz624, hBz625, hSz626⟩ := hz629
  rw [hAz624]
  show Zw 4 zm_CG_change 11 [some (.ref 0), some (.int x), some (.int z)] [] Mz628 _
  refine zw_n 2 rfl ?_
  refine zw_get (v := .ref 26) rfl (Sm.at hSz626 (by decide) (hC.1 0 (by decide) (by decide) (by decide))) rfl ?_
  refine zw_n 2 rfl ?_
  refine zw_callV (as := [.int x, .int z]) (rest := [.ref 0]) rfl rfl rfl (Sm.at hSz626 (by decide) (hC.1 26 (by decide) (by decide) (by decide))) rfl rfl rfl (by decide) (c_changeB Mz628 26 (f 26 0) (f 27) (f 28) (f 29) (seg4 (Sm.at hSz626 (by decide) (hC.1 26 (by decide) (by decide) (by decide))) (Sm.at hSz626 (by decide) (hC.1 27 (by decide) (by decide) (by decide))) (Sm.at hSz626 (by decide) (hC.1 28 (by decide) (by decide) (by decide))) (Sm.at hSz626 (by decide) (hC.1 29 (by decide) (by decide) (by decide)))) hI.tok.safe x z hz hx) (fun rz630 Mz631 hz632 => ?_)
  rw [hz632.1, hz632.2]
  show Zw 4 zm_CG_change 21 [some (.ref 0), some (.int x), some (.int z)] [.int (-2), .ref 0] Mz628 _
  refine zw_callV (as := [.int (-2)]) (rest := []) rfl rfl rfl (Sm.at hSz626 (by decide) (hC.1 0 (by decide) (by decide) (by decide))) rfl rfl rfl (by decide) (c_acted Mz628 (fset (fset (fset (fset f 33 (f 29)) 32 (f 28)) 31 (f 27)) 30 (up (f 30) 0 (f 26 0))) (CC.of (f' := fset (fset (fset (fset f 33 (f 29)) 32 (f 28)) 31 (f 27)) 30 (up (f 30) 0 (f 26 0))) hC (Sm.trans Sm.rf hSz626) ⟨by decide, by decide⟩ (d1_cons (hBz625.get 0 rfl) (d1_cons (hBz625.get 1 rfl) (d1_cons (hBz625.get 2 rfl) (d1_cons (hBz625.get 3 rfl) d1_nil)))) (fs_c (fs_c (fs_c (fs_c fs_n))))) hI.hsz hI.hen (-2)) (fun rz636 Mz637 hz638 => ?_)
  obtain ⟨hAz633, hPz634, hNz635⟩ := hz638
  rw [hAz633]
  show Zw 4 zm_CG_change 24 [some (.ref 0), some (.int x), some (.int z)] [.int (-2)] Mz637 _
  refine zw_iret rfl rfl ?_
  have hM9 := hNz635 (by decide)
  rw [hM9]
  exact ⟨rfl, fset (fset (fset (fset f 33 (f 29)) 32 (f 28)) 31 (f 27)) 30 (up (f 30) 0 (f 26 0)), (CC.of (f' := fset (fset (fset (fset f 33 (f 29)) 32 (f 28)) 31 (f 27)) 30 (up (f 30) 0 (f 26 0))) hC (Sm.trans Sm.rf hSz626) ⟨by decide, by decide⟩ (d1_cons (hBz625.get 0 rfl) (d1_cons (hBz625.get 1 rfl) (d1_cons (hBz625.get 2 rfl) (d1_cons (hBz625.get 3 rfl) d1_nil)))) (fs_c (fs_c (fs_c (fs_c fs_n))))), (Smc.of (S := [30, 31, 32, 33]) (Sm.trans Sm.rf hSz626) (by decide)), CInv.mono ⟨⟨hI.tl, hI.tx, hI.gram, hI.tok, hI.tok.any, hI.grn, hI.mvd, hI.hsz, hI.hen, hI.past, hI.lln, hI.kh, hI.kg, hI.kt, hI.cst, hI.csw, hI.csr, hI.ost, hI.osw, hI.osr, hI.tst, hI.rkn, hI.fnd, hI.ofs⟩, hI.cok, hI.blm, hI.tre, hI.rep⟩ (Nat.le_succ _), Asame.of (fs_c (fs_c (fs_c (fs_c fs_n)))) rfl (by decide)⟩

set_option maxHeartbeats 4000000 in
set_option maxRecDepth 100000 in
theorem c_changeC9 (Mq : zM) (f : Nat → Nat → Nat) (L : Nat) (hC : CC Mq f) (hI : CInv L f) (hL : L < 100000) (x g : Nat) (hx : x < f 26 0) (hg : 33 ≤ g ∧ g ≤ 126) (hgx : f 27 x = g) : Zm 4 zm_CG_change [.ref 0, .int (nI x), .int (nI g)] Mq (fun r9 M1 => r9 = some (.int (-3)) ∧ ∃ f9, CC M1 f9 ∧ Smc Mq M1 ∧ CInv (L + 1) f9 ∧ Asame f f9) := by
  show Zw 4 zm_CG_change 0 [some (.ref 0), some (.int (nI x)), some (.int (nI g))] [] Mq _
  have hS : SafeT (f 26 0) (f 27) (f 28) (f 29) := hI.tok.safe
  have hc20 := hS.1
  have hl : ∀ q, f 28 q < L := hI.tok.lin
  have hL9 := hL
  refine zw_n 1 rfl ?_
  refine zw_get (v := .ref 30) rfl (hC.1 0 (by decide) (by decide) (by decide)) rfl ?_
  refine zw_n 1 rfl ?_
  refine zw_get (v := .ref 26) rfl (hC.1 0 (by decide) (by decide) (by decide)) rfl ?_
  refine zw_callV (as := [.ref 26]) (rest := []) rfl rfl rfl (hC.1 30 (by decide) (by decide) (by decide)) rfl rfl rfl (by decide) (c_copyTok Mq 30 26 (f 30 0) (f 31) (f 32) (f 33) (seg4 (hC.1 30 (by decide) (by decide) (by decide)) (hC.1 31 (by decide) (by decide) (by decide)) (hC.1 32 (by decide) (by decide) (by decide)) (hC.1 33 (by decide) (by decide) (by decide))) (f 26 0) (f 27) (f 28) (f 29) (seg4 (hC.1 26 (by decide) (by decide) (by decide)) (hC.1 27 (by decide) (by decide) (by decide)) (hC.1 28 (by decide) (by decide) (by decide)) (hC.1 29 (by decide) (by decide) (by decide))) (by omega)) (fun rz642 Mz643 hz644 => ?_)
  obtain ⟨hAz639, hBz640, hSz641⟩ := hz644
  rw [hAz639]
  show Zw 4 zm_CG_change 11 [some (.ref 0), some (.int (nI x)), some (.int (nI g))] [] Mz643 _
  refine zw_n 2 rfl ?_
  refine zw_get (v := .ref 26) rfl (Sm.at hSz641 (by decide) (hC.1 0 (by decide) (by decide) (by decide))) rfl ?_
  refine zw_n 2 rfl ?_
  refine zw_callV (as := [.int (nI x), .int (nI g)]) (rest := [.ref 0]) rfl rfl rfl (Sm.at hSz641 (by decide) (hC.1 26 (by decide) (by decide) (by decide))) rfl rfl rfl (by decide) (c_changeOk Mz643 26 (f 26 0) (f 27) (f 28) (f 29) (seg4 (Sm.at hSz641 (by decide) (hC.1 26 (by decide) (by decide) (by decide))) (Sm.at hSz641 (by decide) (hC.1 27 (by decide) (by decide) (by decide))) (Sm.at hSz641 (by decide) (hC.1 28 (by decide) (by decide) (by decide))) (Sm.at hSz641 (by decide) (hC.1 29 (by decide) (by decide) (by decide)))) hI.tok.safe x g hx hg) (fun rz645 Mz646 hz647 => ?_)
  rw [if_pos hgx] at hz647
  rw [hz647.1, hz647.2]
  show Zw 4 zm_CG_change 21 [some (.ref 0), some (.int (nI x)), some (.int (nI g))] [.int (-3), .ref 0] Mz643 _
  refine zw_callV (as := [.int (-3)]) (rest := []) rfl rfl rfl (Sm.at hSz641 (by decide) (hC.1 0 (by decide) (by decide) (by decide))) rfl rfl rfl (by decide) (c_acted Mz643 (fset (fset (fset (fset f 33 (f 29)) 32 (f 28)) 31 (f 27)) 30 (up (f 30) 0 (f 26 0))) (CC.of (f' := fset (fset (fset (fset f 33 (f 29)) 32 (f 28)) 31 (f 27)) 30 (up (f 30) 0 (f 26 0))) hC (Sm.trans Sm.rf hSz641) ⟨by decide, by decide⟩ (d1_cons (hBz640.get 0 rfl) (d1_cons (hBz640.get 1 rfl) (d1_cons (hBz640.get 2 rfl) (d1_cons (hBz640.get 3 rfl) d1_nil)))) (fs_c (fs_c (fs_c (fs_c fs_n))))) hI.hsz hI.hen (-3)) (fun rz651 Mz652 hz653 => ?_)
  obtain ⟨hAz648, hPz649, hNz650⟩ := hz653
  rw [hAz648]
  show Zw 4 zm_CG_change 24 [some (.ref 0), some (.int (nI x)), some (.int (nI g))] [.int (-3)] Mz652 _
  refine zw_iret rfl rfl ?_
  have hM9 := hNz650 (by decide)
  rw [hM9]
  exact ⟨rfl, fset (fset (fset (fset f 33 (f 29)) 32 (f 28)) 31 (f 27)) 30 (up (f 30) 0 (f 26 0)), (CC.of (f' := fset (fset (fset (fset f 33 (f 29)) 32 (f 28)) 31 (f 27)) 30 (up (f 30) 0 (f 26 0))) hC (Sm.trans Sm.rf hSz641) ⟨by decide, by decide⟩ (d1_cons (hBz640.get 0 rfl) (d1_cons (hBz640.get 1 rfl) (d1_cons (hBz640.get 2 rfl) (d1_cons (hBz640.get 3 rfl) d1_nil)))) (fs_c (fs_c (fs_c (fs_c fs_n))))), (Smc.of (S := [30, 31, 32, 33]) (Sm.trans Sm.rf hSz641) (by decide)), CInv.mono ⟨⟨hI.tl, hI.tx, hI.gram, hI.tok, hI.tok.any, hI.grn, hI.mvd, hI.hsz, hI.hen, hI.past, hI.lln, hI.kh, hI.kg, hI.kt, hI.cst, hI.csw, hI.csr, hI.ost, hI.osw, hI.osr, hI.tst, hI.rkn, hI.fnd, hI.ofs⟩, hI.cok, hI.blm, hI.tre, hI.rep⟩ (Nat.le_succ _), Asame.of (fs_c (fs_c (fs_c (fs_c fs_n)))) rfl (by decide)⟩

set_option maxHeartbeats 4000000 in
set_option maxRecDepth 100000 in
theorem c_changeOk9 (Mq : zM) (f : Nat → Nat → Nat) (L : Nat) (hC : CC Mq f) (hI : CInv L f) (hL : L < 100000) (x g : Nat) (hx : x < f 26 0) (hg : 33 ≤ g ∧ g ≤ 126) (hgx : ¬ f 27 x = g) : Zm 4 zm_CG_change [.ref 0, .int (nI x), .int (nI g)] Mq (fun r9 M1 => r9 = some (.int (nI (f 27 x))) ∧ ∃ f9, CC M1 f9 ∧ Smc Mq M1 ∧ CInv (L + 1) f9 ∧ ActS f f9 ∧ f9 26 0 = f 26 0 ∧ f9 27 = up (f 27) x g ∧ f9 28 = f 28 ∧ f9 29 = f 29) := by
  show Zw 4 zm_CG_change 0 [some (.ref 0), some (.int (nI x)), some (.int (nI g))] [] Mq _
  have hS : SafeT (f 26 0) (f 27) (f 28) (f 29) := hI.tok.safe
  have hc20 := hS.1
  have hl : ∀ q, f 28 q < L := hI.tok.lin
  have hL9 := hL
  have hsx := hS.2.1 x
  refine zw_n 1 rfl ?_
  refine zw_get (v := .ref 30) rfl (hC.1 0 (by decide) (by decide) (by decide)) rfl ?_
  refine zw_n 1 rfl ?_
  refine zw_get (v := .ref 26) rfl (hC.1 0 (by decide) (by decide) (by decide)) rfl ?_
  refine zw_callV (as := [.ref 26]) (rest := []) rfl rfl rfl (hC.1 30 (by decide) (by decide) (by decide)) rfl rfl rfl (by decide) (c_copyTok Mq 30 26 (f 30 0) (f 31) (f 32) (f 33) (seg4 (hC.1 30 (by decide) (by decide) (by decide)) (hC.1 31 (by decide) (by decide) (by decide)) (hC.1 32 (by decide) (by decide) (by decide)) (hC.1 33 (by decide) (by decide) (by decide))) (f 26 0) (f 27) (f 28) (f 29) (seg4 (hC.1 26 (by decide) (by decide) (by decide)) (hC.1 27 (by decide) (by decide) (by decide)) (hC.1 28 (by decide) (by decide) (by decide)) (hC.1 29 (by decide) (by decide) (by decide))) (by omega)) (fun rz657 Mz658 hz659 => ?_)
  obtain ⟨hAz654, hBz655, hSz656⟩ := hz659
  rw [hAz654]
  show Zw 4 zm_CG_change 11 [some (.ref 0), some (.int (nI x)), some (.int (nI g))] [] Mz658 _
  refine zw_n 2 rfl ?_
  refine zw_get (v := .ref 26) rfl (Sm.at hSz656 (by decide) (hC.1 0 (by decide) (by decide) (by decide))) rfl ?_
  refine zw_n 2 rfl ?_
  refine zw_callV (as := [.int (nI x), .int (nI g)]) (rest := [.ref 0]) rfl rfl rfl (Sm.at hSz656 (by decide) (hC.1 26 (by decide) (by decide) (by decide))) rfl rfl rfl (by decide) (c_changeOk Mz658 26 (f 26 0) (f 27) (f 28) (f 29) (seg4 (Sm.at hSz656 (by decide) (hC.1 26 (by decide) (by decide) (by decide))) (Sm.at hSz656 (by decide) (hC.1 27 (by decide) (by decide) (by decide))) (Sm.at hSz656 (by decide) (hC.1 28 (by decide) (by decide) (by decide))) (Sm.at hSz656 (by decide) (hC.1 29 (by decide) (by decide) (by decide)))) hI.tok.safe x g hx hg) (fun rz663 Mz664 hz665 => ?_)
  rw [if_neg hgx] at hz665
  obtain ⟨hAz662, hBz660, hSz661⟩ := hz665
  rw [hAz662]
  show Zw 4 zm_CG_change 21 [some (.ref 0), some (.int (nI x)), some (.int (nI g))] [.int (nI (f 27 x)), .ref 0] Mz664 _
  refine zw_callV (as := [.int (nI (f 27 x))]) (rest := []) rfl rfl rfl (Sm.at hSz661 (by decide) (Sm.at hSz656 (by decide) (hC.1 0 (by decide) (by decide) (by decide)))) rfl rfl rfl (by decide) (c_acted Mz664 (fset (fset (fset (fset (fset f 33 (f 29)) 32 (f 28)) 31 (f 27)) 30 (up (f 30) 0 (f 26 0))) 27 (up (f 27) x g)) (CC.of (f' := fset (fset (fset (fset (fset f 33 (f 29)) 32 (f 28)) 31 (f 27)) 30 (up (f 30) 0 (f 26 0))) 27 (up (f 27) x g)) hC (Sm.tw (Sm.tw Sm.rf hSz656 (by decide)) hSz661 (by decide)) ⟨by decide, by decide⟩ (d1_cons (hBz660.get 1 rfl) (d1_cons (Sm.at hSz661 (by decide) (hBz655.get 0 rfl)) (d1_cons (Sm.at hSz661 (by decide) (hBz655.get 1 rfl)) (d1_cons (Sm.at hSz661 (by decide) (hBz655.get 2 rfl)) (d1_cons (Sm.at hSz661 (by decide) (hBz655.get 3 rfl)) d1_nil))))) (fs_c (fs_c (fs_c (fs_c (fs_c fs_n)))))) hI.hsz hI.hen (nI (f 27 x))) (fun rz669 Mz670 hz671 => ?_)
  obtain ⟨hAz666, hPz667, hNz668⟩ := hz671
  rw [hAz666]
  show Zw 4 zm_CG_change 24 [some (.ref 0), some (.int (nI x)), some (.int (nI g))] [.int (nI (f 27 x))] Mz670 _
  refine zw_iret rfl rfl ?_
  obtain ⟨hcc9, hsm9⟩ := hPz667 (by rw [nI_toInt (by omega)]; omega)
  have hb9 := act_tok (f1 := fset (fset (fset (fset (fset f 33 (f 29)) 32 (f 28)) 31 (f 27)) 30 (up (f 30) 0 (f 26 0))) 27 (up (f 27) x g)) hI.hen
  exact ⟨rfl, chg (hRem (fset (fset (fset (fset (fset f 33 (f 29)) 32 (f 28)) 31 (f 27)) 30 (up (f 30) 0 (f 26 0))) 27 (up (f 27) x g))), hcc9, Smc.tr (Smc.of (S := [27, 30, 31, 32, 33]) (Sm.tw (Sm.tw Sm.rf hSz656 (by decide)) hSz661 (by decide)) (by decide)) hsm9, CInv.mono (CInv.chg (CBase.hrem (⟨hI.tl, hI.tx, hI.gram, TOK.changed hI.tok hg, hI.tok.any, hI.grn, hI.mvd, hI.hsz, hI.hen, hI.past, hI.lln, hI.kh, hI.kg, hI.kt, hI.cst, hI.csw, hI.csr, hI.ost, hI.osw, hI.osr, hI.tst, hI.rkn, hI.fnd, hI.ofs⟩ : CBase L (fset (fset (fset (fset (fset f 33 (f 29)) 32 (f 28)) 31 (f 27)) 30 (up (f 30) 0 (f 26 0))) 27 (up (f 27) x g))) hI.tok)) (Nat.le_succ _), ActS.of hI.hen (act_out (fs_c (fs_c (fs_c (fs_c (fs_c fs_n))))) (by decide)) ⟨rfl, rfl, rfl, rfl⟩, by rw [hb9.1]; rfl, by rw [hb9.2.1]; rfl, by rw [hb9.2.2.1]; rfl, by rw [hb9.2.2.2]; rfl⟩

set_option maxHeartbeats 4000000 in
set_option maxRecDepth 100000 in
theorem c_putA9 (Mq : zM) (f : Nat → Nat → Nat) (L : Nat) (hC : CC Mq f) (hI : CInv L f) (hL : L < 100000) (x z g : Int32) (hx : ∀ u : Int, (f 26 0 = 0 → u = 0) → (0 < f 26 0 → u = (f 28 (f 26 0 - 1) : Int) + 1) → ¬ ((0 ≤ x.toInt ∧ x.toInt ≤ u) ∧ (0 ≤ z.toInt ∧ z.toInt < 40) ∧ 33 ≤ g.toInt ∧ g.toInt ≤ 126)) : Zm 4 zm_CG_put [.ref 0, .int x, .int z, .int g] Mq (fun r9 M1 => r9 = some (.int (-1)) ∧ ∃ f9, CC M1 f9 ∧ Smc Mq M1 ∧ CInv (L + 1) f9 ∧ Asame f f9) := by
  show Zw 4 zm_CG_put 0 [some (.ref 0), some (.int x), some (.int z), some (.int g)] [] Mq _
  have hS : SafeT (f 26 0) (f 27) (f 28) (f 29) := hI.tok.safe
  have hc20 := hS.1
  have hl : ∀ q, f 28 q < L := hI.tok.lin
  have hL9 := hL
  refine zw_n 1 rfl ?_
  refine zw_get (v := .ref 30) rfl (hC.1 0 (by decide) (by decide) (by decide)) rfl ?_
  refine zw_n 1 rfl ?_
  refine zw_get (v := .ref 26) rfl (hC.1 0 (by decide) (by decide) (by decide)) rfl ?_
  refine zw_callV (as := [.ref 26]) (rest := []) rfl rfl rfl (hC.1 30 (by decide) (by decide) (by decide)) rfl rfl rfl (by decide) (c_copyTok Mq 30 26 (f 30 0) (f 31) (f 32) (f 33) (seg4 (hC.1 30 (by decide) (by decide) (by decide)) (hC.1 31 (by decide) (by decide) (by decide)) (hC.1 32 (by decide) (by decide) (by decide)) (hC.1 33 (by decide) (by decide) (by decide))) (f 26 0) (f 27) (f 28) (f 29) (seg4 (hC.1 26 (by decide) (by decide) (by decide)) (hC.1 27 (by decide) (by decide) (by decide)) (hC.1 28 (by decide) (by decide) (by decide)) (hC.1 29 (by decide) (by decide) (by decide))) (by omega)) (fun rz675 Mz676 hz677 => ?_)
  obtain ⟨hAz672, hBz673, hSz674⟩ := hz677
  rw [hAz672]
  show Zw 4 zm_CG_put 11 [some (.ref 0), some (.int x), some (.int z), some (.int g)] [] Mz676 _
  refine zw_n 2 rfl ?_
  refine zw_get (v := .ref 26) rfl (Sm.at hSz674 (by decide) (hC.1 0 (by decide) (by decide) (by decide))) rfl ?_
  refine zw_n 3 rfl ?_
  refine zw_callV (as := [.int x, .int z, .int g]) (rest := [.ref 0]) rfl rfl rfl (Sm.at hSz674 (by decide) (hC.1 26 (by decide) (by decide) (by decide))) rfl rfl rfl (by decide) (c_putNo Mz676 26 (f 26 0) (f 27) (f 28) (f 29) (seg4 (Sm.at hSz674 (by decide) (hC.1 26 (by decide) (by decide) (by decide))) (Sm.at hSz674 (by decide) (hC.1 27 (by decide) (by decide) (by decide))) (Sm.at hSz674 (by decide) (hC.1 28 (by decide) (by decide) (by decide))) (Sm.at hSz674 (by decide) (hC.1 29 (by decide) (by decide) (by decide)))) hI.tok.safe x z g hx) (fun rz678 Mz679 hz680 => ?_)
  rw [hz680.1, hz680.2]
  show Zw 4 zm_CG_put 22 [some (.ref 0), some (.int x), some (.int z), some (.int g)] [.int (-1), .ref 0] Mz676 _
  refine zw_callV (as := [.int (-1)]) (rest := []) rfl rfl rfl (Sm.at hSz674 (by decide) (hC.1 0 (by decide) (by decide) (by decide))) rfl rfl rfl (by decide) (c_acted Mz676 (fset (fset (fset (fset f 33 (f 29)) 32 (f 28)) 31 (f 27)) 30 (up (f 30) 0 (f 26 0))) (CC.of (f' := fset (fset (fset (fset f 33 (f 29)) 32 (f 28)) 31 (f 27)) 30 (up (f 30) 0 (f 26 0))) hC (Sm.trans Sm.rf hSz674) ⟨by decide, by decide⟩ (d1_cons (hBz673.get 0 rfl) (d1_cons (hBz673.get 1 rfl) (d1_cons (hBz673.get 2 rfl) (d1_cons (hBz673.get 3 rfl) d1_nil)))) (fs_c (fs_c (fs_c (fs_c fs_n))))) hI.hsz hI.hen (-1)) (fun rz684 Mz685 hz686 => ?_)
  obtain ⟨hAz681, hPz682, hNz683⟩ := hz686
  rw [hAz681]
  show Zw 4 zm_CG_put 25 [some (.ref 0), some (.int x), some (.int z), some (.int g)] [.int (-1)] Mz685 _
  refine zw_iret rfl rfl ?_
  have hM9 := hNz683 (by decide)
  rw [hM9]
  exact ⟨rfl, fset (fset (fset (fset f 33 (f 29)) 32 (f 28)) 31 (f 27)) 30 (up (f 30) 0 (f 26 0)), (CC.of (f' := fset (fset (fset (fset f 33 (f 29)) 32 (f 28)) 31 (f 27)) 30 (up (f 30) 0 (f 26 0))) hC (Sm.trans Sm.rf hSz674) ⟨by decide, by decide⟩ (d1_cons (hBz673.get 0 rfl) (d1_cons (hBz673.get 1 rfl) (d1_cons (hBz673.get 2 rfl) (d1_cons (hBz673.get 3 rfl) d1_nil)))) (fs_c (fs_c (fs_c (fs_c fs_n))))), (Smc.of (S := [30, 31, 32, 33]) (Sm.trans Sm.rf hSz674) (by decide)), CInv.mono ⟨⟨hI.tl, hI.tx, hI.gram, hI.tok, hI.tok.any, hI.grn, hI.mvd, hI.hsz, hI.hen, hI.past, hI.lln, hI.kh, hI.kg, hI.kt, hI.cst, hI.csw, hI.csr, hI.ost, hI.osw, hI.osr, hI.tst, hI.rkn, hI.fnd, hI.ofs⟩, hI.cok, hI.blm, hI.tre, hI.rep⟩ (Nat.le_succ _), Asame.of (fs_c (fs_c (fs_c (fs_c fs_n)))) rfl (by decide)⟩

set_option maxHeartbeats 4000000 in
set_option maxRecDepth 100000 in
theorem c_putC9 (Mq : zM) (f : Nat → Nat → Nat) (L : Nat) (hC : CC Mq f) (hI : CInv L f) (hL : L < 100000) (l d g : Nat) (hd : d < 40) (hg : 33 ≤ g ∧ g ≤ 126) (hl0 : f 26 0 = 0 → l = 0) (hl1 : 0 < f 26 0 → l ≤ f 28 (f 26 0 - 1) + 1) (hth : cnt (thB (f 28) (f 29) l d) (f 26 0) ≠ 0 ∨ f 26 0 = 20) : Zm 4 zm_CG_put [.ref 0, .int (nI l), .int (nI d), .int (nI g)] Mq (fun r9 M1 => r9 = some (.int (-3)) ∧ ∃ f9, CC M1 f9 ∧ Smc Mq M1 ∧ CInv (L + 1) f9 ∧ Asame f f9) := by
  show Zw 4 zm_CG_put 0 [some (.ref 0), some (.int (nI l)), some (.int (nI d)), some (.int (nI g))] [] Mq _
  have hS : SafeT (f 26 0) (f 27) (f 28) (f 29) := hI.tok.safe
  have hc20 := hS.1
  have hl : ∀ q, f 28 q < L := hI.tok.lin
  have hL9 := hL
  have hlq := hl (f 26 0 - 1)
  have hlL : l < L + 1 := by
    rcases Nat.eq_zero_or_pos (f 26 0) with q | q
    · have := hl0 q; omega
    · have := hl1 q; omega
  refine zw_n 1 rfl ?_
  refine zw_get (v := .ref 30) rfl (hC.1 0 (by decide) (by decide) (by decide)) rfl ?_
  refine zw_n 1 rfl ?_
  refine zw_get (v := .ref 26) rfl (hC.1 0 (by decide) (by decide) (by decide)) rfl ?_
  refine zw_callV (as := [.ref 26]) (rest := []) rfl rfl rfl (hC.1 30 (by decide) (by decide) (by decide)) rfl rfl rfl (by decide) (c_copyTok Mq 30 26 (f 30 0) (f 31) (f 32) (f 33) (seg4 (hC.1 30 (by decide) (by decide) (by decide)) (hC.1 31 (by decide) (by decide) (by decide)) (hC.1 32 (by decide) (by decide) (by decide)) (hC.1 33 (by decide) (by decide) (by decide))) (f 26 0) (f 27) (f 28) (f 29) (seg4 (hC.1 26 (by decide) (by decide) (by decide)) (hC.1 27 (by decide) (by decide) (by decide)) (hC.1 28 (by decide) (by decide) (by decide)) (hC.1 29 (by decide) (by decide) (by decide))) (by omega)) (fun rz690 Mz691 hz692 => ?_)
  obtain ⟨hAz687, hBz688, hSz689⟩ := hz692
  rw [hAz687]
  show Zw 4 zm_CG_put 11 [some (.ref 0), some (.int (nI l)), some (.int (nI d)), some (.int (nI g))] [] Mz691 _
  refine zw_n 2 rfl ?_
  refine zw_get (v := .ref 26) rfl (Sm.at hSz689 (by decide) (hC.1 0 (by decide) (by decide) (by decide))) rfl ?_
  refine zw_n 3 rfl ?_
  refine zw_callV (as := [.int (nI l), .int (nI d), .int (nI g)]) (rest := [.ref 0]) rfl rfl rfl (Sm.at hSz689 (by decide) (hC.1 26 (by decide) (by decide) (by decide))) rfl rfl rfl (by decide) (c_putOk Mz691 26 (f 26 0) (f 27) (f 28) (f 29) (seg4 (Sm.at hSz689 (by decide) (hC.1 26 (by decide) (by decide) (by decide))) (Sm.at hSz689 (by decide) (hC.1 27 (by decide) (by decide) (by decide))) (Sm.at hSz689 (by decide) (hC.1 28 (by decide) (by decide) (by decide))) (Sm.at hSz689 (by decide) (hC.1 29 (by decide) (by decide) (by decide)))) hI.tok.safe l d g hd hg hl0 hl1 (by omega) hI.tok.srt) (fun rz693 Mz694 hz695 => ?_)
  rw [if_pos hth] at hz695
  rw [hz695.1, hz695.2]
  show Zw 4 zm_CG_put 22 [some (.ref 0), some (.int (nI l)), some (.int (nI d)), some (.int (nI g))] [.int (-3), .ref 0] Mz691 _
  refine zw_callV (as := [.int (-3)]) (rest := []) rfl rfl rfl (Sm.at hSz689 (by decide) (hC.1 0 (by decide) (by decide) (by decide))) rfl rfl rfl (by decide) (c_acted Mz691 (fset (fset (fset (fset f 33 (f 29)) 32 (f 28)) 31 (f 27)) 30 (up (f 30) 0 (f 26 0))) (CC.of (f' := fset (fset (fset (fset f 33 (f 29)) 32 (f 28)) 31 (f 27)) 30 (up (f 30) 0 (f 26 0))) hC (Sm.trans Sm.rf hSz689) ⟨by decide, by decide⟩ (d1_cons (hBz688.get 0 rfl) (d1_cons (hBz688.get 1 rfl) (d1_cons (hBz688.get 2 rfl) (d1_cons (hBz688.get 3 rfl) d1_nil)))) (fs_c (fs_c (fs_c (fs_c fs_n))))) hI.hsz hI.hen (-3)) (fun rz699 Mz700 hz701 => ?_)
  obtain ⟨hAz696, hPz697, hNz698⟩ := hz701
  rw [hAz696]
  show Zw 4 zm_CG_put 25 [some (.ref 0), some (.int (nI l)), some (.int (nI d)), some (.int (nI g))] [.int (-3)] Mz700 _
  refine zw_iret rfl rfl ?_
  have hM9 := hNz698 (by decide)
  rw [hM9]
  exact ⟨rfl, fset (fset (fset (fset f 33 (f 29)) 32 (f 28)) 31 (f 27)) 30 (up (f 30) 0 (f 26 0)), (CC.of (f' := fset (fset (fset (fset f 33 (f 29)) 32 (f 28)) 31 (f 27)) 30 (up (f 30) 0 (f 26 0))) hC (Sm.trans Sm.rf hSz689) ⟨by decide, by decide⟩ (d1_cons (hBz688.get 0 rfl) (d1_cons (hBz688.get 1 rfl) (d1_cons (hBz688.get 2 rfl) (d1_cons (hBz688.get 3 rfl) d1_nil)))) (fs_c (fs_c (fs_c (fs_c fs_n))))), (Smc.of (S := [30, 31, 32, 33]) (Sm.trans Sm.rf hSz689) (by decide)), CInv.mono ⟨⟨hI.tl, hI.tx, hI.gram, hI.tok, hI.tok.any, hI.grn, hI.mvd, hI.hsz, hI.hen, hI.past, hI.lln, hI.kh, hI.kg, hI.kt, hI.cst, hI.csw, hI.csr, hI.ost, hI.osw, hI.osr, hI.tst, hI.rkn, hI.fnd, hI.ofs⟩, hI.cok, hI.blm, hI.tre, hI.rep⟩ (Nat.le_succ _), Asame.of (fs_c (fs_c (fs_c (fs_c fs_n)))) rfl (by decide)⟩

set_option maxHeartbeats 4000000 in
set_option maxRecDepth 100000 in
theorem c_putOk9 (Mq : zM) (f : Nat → Nat → Nat) (L : Nat) (hC : CC Mq f) (hI : CInv L f) (hL : L < 100000) (l d g : Nat) (hd : d < 40) (hg : 33 ≤ g ∧ g ≤ 126) (hl0 : f 26 0 = 0 → l = 0) (hl1 : 0 < f 26 0 → l ≤ f 28 (f 26 0 - 1) + 1) (hth : ¬ (cnt (thB (f 28) (f 29) l d) (f 26 0) ≠ 0 ∨ f 26 0 = 20)) : Zm 4 zm_CG_put [.ref 0, .int (nI l), .int (nI d), .int (nI g)] Mq (fun r9 M1 => r9 = some (.int (nI (cnt (ahB (f 28) (f 29) l d) (f 26 0)))) ∧ ∃ f9, CC M1 f9 ∧ Smc Mq M1 ∧ CInv (L + 1) f9 ∧ ActS f f9 ∧ f9 26 0 = f 26 0 + 1 ∧ ∀ q, q < f 26 0 + 1 → f9 27 q = inF (cnt (ahB (f 28) (f 29) l d) (f 26 0)) g (f 27) q ∧ f9 28 q = inF (cnt (ahB (f 28) (f 29) l d) (f 26 0)) l (f 28) q ∧ f9 29 q = inF (cnt (ahB (f 28) (f 29) l d) (f 26 0)) d (f 29) q) := by
  show Zw 4 zm_CG_put 0 [some (.ref 0), some (.int (nI l)), some (.int (nI d)), some (.int (nI g))] [] Mq _
  have hS : SafeT (f 26 0) (f 27) (f 28) (f 29) := hI.tok.safe
  have hc20 := hS.1
  have hl : ∀ q, f 28 q < L := hI.tok.lin
  have hL9 := hL
  have hlq := hl (f 26 0 - 1)
  have hlL : l < L + 1 := by
    rcases Nat.eq_zero_or_pos (f 26 0) with q | q
    · have := hl0 q; omega
    · have := hl1 q; omega
  have hcl := cnt_le (ahB (f 28) (f 29) l d) (f 26 0)
  have hJ := hI.base.mono (Nat.le_succ L)
  refine zw_n 1 rfl ?_
  refine zw_get (v := .ref 30) rfl (hC.1 0 (by decide) (by decide) (by decide)) rfl ?_
  refine zw_n 1 rfl ?_
  refine zw_get (v := .ref 26) rfl (hC.1 0 (by decide) (by decide) (by decide)) rfl ?_
  refine zw_callV (as := [.ref 26]) (rest := []) rfl rfl rfl (hC.1 30 (by decide) (by decide) (by decide)) rfl rfl rfl (by decide) (c_copyTok Mq 30 26 (f 30 0) (f 31) (f 32) (f 33) (seg4 (hC.1 30 (by decide) (by decide) (by decide)) (hC.1 31 (by decide) (by decide) (by decide)) (hC.1 32 (by decide) (by decide) (by decide)) (hC.1 33 (by decide) (by decide) (by decide))) (f 26 0) (f 27) (f 28) (f 29) (seg4 (hC.1 26 (by decide) (by decide) (by decide)) (hC.1 27 (by decide) (by decide) (by decide)) (hC.1 28 (by decide) (by decide) (by decide)) (hC.1 29 (by decide) (by decide) (by decide))) (by omega)) (fun rz705 Mz706 hz707 => ?_)
  obtain ⟨hAz702, hBz703, hSz704⟩ := hz707
  rw [hAz702]
  show Zw 4 zm_CG_put 11 [some (.ref 0), some (.int (nI l)), some (.int (nI d)), some (.int (nI g))] [] Mz706 _
  refine zw_n 2 rfl ?_
  refine zw_get (v := .ref 26) rfl (Sm.at hSz704 (by decide) (hC.1 0 (by decide) (by decide) (by decide))) rfl ?_
  refine zw_n 3 rfl ?_
  refine zw_callV (as := [.int (nI l), .int (nI d), .int (nI g)]) (rest := [.ref 0]) rfl rfl rfl (Sm.at hSz704 (by decide) (hC.1 26 (by decide) (by decide) (by decide))) rfl rfl rfl (by decide) (c_putOk Mz706 26 (f 26 0) (f 27) (f 28) (f 29) (seg4 (Sm.at hSz704 (by decide) (hC.1 26 (by decide) (by decide) (by decide))) (Sm.at hSz704 (by decide) (hC.1 27 (by decide) (by decide) (by decide))) (Sm.at hSz704 (by decide) (hC.1 28 (by decide) (by decide) (by decide))) (Sm.at hSz704 (by decide) (hC.1 29 (by decide) (by decide) (by decide)))) hI.tok.safe l d g hd hg hl0 hl1 (by omega) hI.tok.srt) (fun rz717 Mz718 hz719 => ?_)
  rw [if_neg hth] at hz719
  obtain ⟨hAz716, sgz708, liz709, coz710, hBz711, hSz712, hFz713, hTz714, hLz715⟩ := hz719
  rw [hAz716]
  show Zw 4 zm_CG_put 22 [some (.ref 0), some (.int (nI l)), some (.int (nI d)), some (.int (nI g))] [.int (nI (cnt (ahB (f 28) (f 29) l d) (f 26 0))), .ref 0] Mz718 _
  refine zw_callV (as := [.int (nI (cnt (ahB (f 28) (f 29) l d) (f 26 0)))]) (rest := []) rfl rfl rfl (Sm.at hSz712 (by decide) (Sm.at hSz704 (by decide) (hC.1 0 (by decide) (by decide) (by decide)))) rfl rfl rfl (by decide) (c_acted Mz718 (fset (fset (fset (fset (fset (fset (fset (fset f 33 (f 29)) 32 (f 28)) 31 (f 27)) 30 (up (f 30) 0 (f 26 0))) 29 coz710) 28 liz709) 27 sgz708) 26 (up (f 26) 0 (f 26 0 + 1))) (CC.of (f' := fset (fset (fset (fset (fset (fset (fset (fset f 33 (f 29)) 32 (f 28)) 31 (f 27)) 30 (up (f 30) 0 (f 26 0))) 29 coz710) 28 liz709) 27 sgz708) 26 (up (f 26) 0 (f 26 0 + 1))) hC (Sm.tw (Sm.tw Sm.rf hSz704 (by decide)) hSz712 (by decide)) ⟨by decide, by decide⟩ (d1_cons (hBz711.get 0 rfl) (d1_cons (hBz711.get 1 rfl) (d1_cons (hBz711.get 2 rfl) (d1_cons (hBz711.get 3 rfl) (d1_cons (Sm.at hSz712 (by decide) (hBz703.get 0 rfl)) (d1_cons (Sm.at hSz712 (by decide) (hBz703.get 1 rfl)) (d1_cons (Sm.at hSz712 (by decide) (hBz703.get 2 rfl)) (d1_cons (Sm.at hSz712 (by decide) (hBz703.get 3 rfl)) d1_nil)))))))) (fs_c (fs_c (fs_c (fs_c (fs_c (fs_c (fs_c (fs_c fs_n))))))))) hI.hsz hI.hen (nI (cnt (ahB (f 28) (f 29) l d) (f 26 0)))) (fun rz723 Mz724 hz725 => ?_)
  obtain ⟨hAz720, hPz721, hNz722⟩ := hz725
  rw [hAz720]
  show Zw 4 zm_CG_put 25 [some (.ref 0), some (.int (nI l)), some (.int (nI d)), some (.int (nI g))] [.int (nI (cnt (ahB (f 28) (f 29) l d) (f 26 0)))] Mz724 _
  refine zw_iret rfl rfl ?_
  obtain ⟨hcc9, hsm9⟩ := hPz721 (by rw [nI_toInt (by omega)]; omega)
  have hb9 := act_tok (f1 := fset (fset (fset (fset (fset (fset (fset (fset f 33 (f 29)) 32 (f 28)) 31 (f 27)) 30 (up (f 30) 0 (f 26 0))) 29 coz710) 28 liz709) 27 sgz708) 26 (up (f 26) 0 (f 26 0 + 1))) hI.hen
  exact ⟨rfl, chg (hRem (fset (fset (fset (fset (fset (fset (fset (fset f 33 (f 29)) 32 (f 28)) 31 (f 27)) 30 (up (f 30) 0 (f 26 0))) 29 coz710) 28 liz709) 27 sgz708) 26 (up (f 26) 0 (f 26 0 + 1)))), hcc9, Smc.tr (Smc.of (S := [26, 27, 28, 29, 30, 31, 32, 33]) (Sm.tw (Sm.tw Sm.rf hSz704 (by decide)) hSz712 (by decide)) (by decide)) hsm9, CInv.chg (CBase.hrem (⟨hJ.tl, hJ.tx, hJ.gram, TOK.put hI.tok hg (Classical.byContradiction fun q => hth (Or.inl q)) hFz713 (hLz715 (L + 1) (fun q => Nat.lt_succ_of_lt (hl q)) hlL) hTz714, hJ.tok.any, hJ.grn, hJ.mvd, hJ.hsz, hJ.hen, hJ.past, hJ.lln, hJ.kh, hJ.kg, hJ.kt, hJ.cst, hJ.csw, hJ.csr, hJ.ost, hJ.osw, hJ.osr, hJ.tst, hJ.rkn, hJ.fnd, hJ.ofs⟩ : CBase (L + 1) (fset (fset (fset (fset (fset (fset (fset (fset f 33 (f 29)) 32 (f 28)) 31 (f 27)) 30 (up (f 30) 0 (f 26 0))) 29 coz710) 28 liz709) 27 sgz708) 26 (up (f 26) 0 (f 26 0 + 1)))) (hI.tok.mono (Nat.le_succ _))), ActS.of hI.hen (act_out (fs_c (fs_c (fs_c (fs_c (fs_c (fs_c (fs_c (fs_c fs_n)))))))) (by decide)) ⟨rfl, rfl, rfl, rfl⟩, by rw [hb9.1]; rfl, fun q hq => by rw [hb9.2.1, hb9.2.2.1, hb9.2.2.2]; exact hTz714 q hq⟩

set_option maxHeartbeats 4000000 in
set_option maxRecDepth 100000 in
theorem c_partA9 (Mq : zM) (f : Nat → Nat → Nat) (L : Nat) (hC : CC Mq f) (hI : CInv L f) (hL : L < 100000) (x z : Int32) (hz : ¬ (0 ≤ z.toInt ∧ z.toInt < 40)) : Zm 4 zm_CG_part [.ref 0, .int x, .int z] Mq (fun r9 M1 => r9 = some (.int (-1)) ∧ ∃ f9, CC M1 f9 ∧ Smc Mq M1 ∧ CInv (L + 1) f9 ∧ Asame f f9) := by
  show Zw 4 zm_CG_part 0 [some (.ref 0), some (.int x), some (.int z)] [] Mq _
  have hS : SafeT (f 26 0) (f 27) (f 28) (f 29) := hI.tok.safe
  have hc20 := hS.1
  have hl : ∀ q, f 28 q < L := hI.tok.lin
  have hL9 := hL
  refine zw_n 1 rfl ?_
  refine zw_get (v := .ref 30) rfl (hC.1 0 (by decide) (by decide) (by decide)) rfl ?_
  refine zw_n 1 rfl ?_
  refine zw_get (v := .ref 26) rfl (hC.1 0 (by decide) (by decide) (by decide)) rfl ?_
  refine zw_callV (as := [.ref 26]) (rest := []) rfl rfl rfl (hC.1 30 (by decide) (by decide) (by decide)) rfl rfl rfl (by decide) (c_copyTok Mq 30 26 (f 30 0) (f 31) (f 32) (f 33) (seg4 (hC.1 30 (by decide) (by decide) (by decide)) (hC.1 31 (by decide) (by decide) (by decide)) (hC.1 32 (by decide) (by decide) (by decide)) (hC.1 33 (by decide) (by decide) (by decide))) (f 26 0) (f 27) (f 28) (f 29) (seg4 (hC.1 26 (by decide) (by decide) (by decide)) (hC.1 27 (by decide) (by decide) (by decide)) (hC.1 28 (by decide) (by decide) (by decide)) (hC.1 29 (by decide) (by decide) (by decide))) (by omega)) (fun rz729 Mz730 hz731 => ?_)
  obtain ⟨hAz726, hBz727, hSz728⟩ := hz731
  rw [hAz726]
  show Zw 4 zm_CG_part 11 [some (.ref 0), some (.int x), some (.int z)] [] Mz730 _
  refine zw_n 2 rfl ?_
  refine zw_get (v := .ref 26) rfl (Sm.at hSz728 (by decide) (hC.1 0 (by decide) (by decide) (by decide))) rfl ?_
  refine zw_n 2 rfl ?_
  refine zw_callV (as := [.int x, .int z]) (rest := [.ref 0]) rfl rfl rfl (Sm.at hSz728 (by decide) (hC.1 26 (by decide) (by decide) (by decide))) rfl rfl rfl (by decide) (c_partA Mz730 26 (f 26 0) (f 27) (f 28) (f 29) (seg4 (Sm.at hSz728 (by decide) (hC.1 26 (by decide) (by decide) (by decide))) (Sm.at hSz728 (by decide) (hC.1 27 (by decide) (by decide) (by decide))) (Sm.at hSz728 (by decide) (hC.1 28 (by decide) (by decide) (by decide))) (Sm.at hSz728 (by decide) (hC.1 29 (by decide) (by decide) (by decide)))) hI.tok.safe x z hz) (fun rz732 Mz733 hz734 => ?_)
  rw [hz734.1, hz734.2]
  show Zw 4 zm_CG_part 21 [some (.ref 0), some (.int x), some (.int z)] [.int (-1), .ref 0] Mz730 _
  refine zw_callV (as := [.int (-1)]) (rest := []) rfl rfl rfl (Sm.at hSz728 (by decide) (hC.1 0 (by decide) (by decide) (by decide))) rfl rfl rfl (by decide) (c_acted Mz730 (fset (fset (fset (fset f 33 (f 29)) 32 (f 28)) 31 (f 27)) 30 (up (f 30) 0 (f 26 0))) (CC.of (f' := fset (fset (fset (fset f 33 (f 29)) 32 (f 28)) 31 (f 27)) 30 (up (f 30) 0 (f 26 0))) hC (Sm.trans Sm.rf hSz728) ⟨by decide, by decide⟩ (d1_cons (hBz727.get 0 rfl) (d1_cons (hBz727.get 1 rfl) (d1_cons (hBz727.get 2 rfl) (d1_cons (hBz727.get 3 rfl) d1_nil)))) (fs_c (fs_c (fs_c (fs_c fs_n))))) hI.hsz hI.hen (-1)) (fun rz738 Mz739 hz740 => ?_)
  obtain ⟨hAz735, hPz736, hNz737⟩ := hz740
  rw [hAz735]
  show Zw 4 zm_CG_part 24 [some (.ref 0), some (.int x), some (.int z)] [.int (-1)] Mz739 _
  refine zw_iret rfl rfl ?_
  have hM9 := hNz737 (by decide)
  rw [hM9]
  exact ⟨rfl, fset (fset (fset (fset f 33 (f 29)) 32 (f 28)) 31 (f 27)) 30 (up (f 30) 0 (f 26 0)), (CC.of (f' := fset (fset (fset (fset f 33 (f 29)) 32 (f 28)) 31 (f 27)) 30 (up (f 30) 0 (f 26 0))) hC (Sm.trans Sm.rf hSz728) ⟨by decide, by decide⟩ (d1_cons (hBz727.get 0 rfl) (d1_cons (hBz727.get 1 rfl) (d1_cons (hBz727.get 2 rfl) (d1_cons (hBz727.get 3 rfl) d1_nil)))) (fs_c (fs_c (fs_c (fs_c fs_n))))), (Smc.of (S := [30, 31, 32, 33]) (Sm.trans Sm.rf hSz728) (by decide)), CInv.mono ⟨⟨hI.tl, hI.tx, hI.gram, hI.tok, hI.tok.any, hI.grn, hI.mvd, hI.hsz, hI.hen, hI.past, hI.lln, hI.kh, hI.kg, hI.kt, hI.cst, hI.csw, hI.csr, hI.ost, hI.osw, hI.osr, hI.tst, hI.rkn, hI.fnd, hI.ofs⟩, hI.cok, hI.blm, hI.tre, hI.rep⟩ (Nat.le_succ _), Asame.of (fs_c (fs_c (fs_c (fs_c fs_n)))) rfl (by decide)⟩

set_option maxHeartbeats 4000000 in
set_option maxRecDepth 100000 in
theorem c_partB9 (Mq : zM) (f : Nat → Nat → Nat) (L : Nat) (hC : CC Mq f) (hI : CInv L f) (hL : L < 100000) (x z : Int32) (hz : 0 ≤ z.toInt ∧ z.toInt < 40) (hx : ¬ (0 ≤ x.toInt ∧ x.toInt < f 26 0)) : Zm 4 zm_CG_part [.ref 0, .int x, .int z] Mq (fun r9 M1 => r9 = some (.int (-2)) ∧ ∃ f9, CC M1 f9 ∧ Smc Mq M1 ∧ CInv (L + 1) f9 ∧ Asame f f9) := by
  show Zw 4 zm_CG_part 0 [some (.ref 0), some (.int x), some (.int z)] [] Mq _
  have hS : SafeT (f 26 0) (f 27) (f 28) (f 29) := hI.tok.safe
  have hc20 := hS.1
  have hl : ∀ q, f 28 q < L := hI.tok.lin
  have hL9 := hL
  refine zw_n 1 rfl ?_
  refine zw_get (v := .ref 30) rfl (hC.1 0 (by decide) (by decide) (by decide)) rfl ?_
  refine zw_n 1 rfl ?_
  refine zw_get (v := .ref 26) rfl (hC.1 0 (by decide) (by decide) (by decide)) rfl ?_
  refine zw_callV (as := [.ref 26]) (rest := []) rfl rfl rfl (hC.1 30 (by decide) (by decide) (by decide)) rfl rfl rfl (by decide) (c_copyTok Mq 30 26 (f 30 0) (f 31) (f 32) (f 33) (seg4 (hC.1 30 (by decide) (by decide) (by decide)) (hC.1 31 (by decide) (by decide) (by decide)) (hC.1 32 (by decide) (by decide) (by decide)) (hC.1 33 (by decide) (by decide) (by decide))) (f 26 0) (f 27) (f 28) (f 29) (seg4 (hC.1 26 (by decide) (by decide) (by decide)) (hC.1 27 (by decide) (by decide) (by decide)) (hC.1 28 (by decide) (by decide) (by decide)) (hC.1 29 (by decide) (by decide) (by decide))) (by omega)) (fun rz744 Mz745 hz746 => ?_)
  obtain ⟨hAz741, hBz742, hSz743⟩ := hz746
  rw [hAz741]
  show Zw 4 zm_CG_part 11 [some (.ref 0), some (.int x), some (.int z)] [] Mz745 _
  refine zw_n 2 rfl ?_
  refine zw_get (v := .ref 26) rfl (Sm.at hSz743 (by decide) (hC.1 0 (by decide) (by decide) (by decide))) rfl ?_
  refine zw_n 2 rfl ?_
  refine zw_callV (as := [.int x, .int z]) (rest := [.ref 0]) rfl rfl rfl (Sm.at hSz743 (by decide) (hC.1 26 (by decide) (by decide) (by decide))) rfl rfl rfl (by decide) (c_partB Mz745 26 (f 26 0) (f 27) (f 28) (f 29) (seg4 (Sm.at hSz743 (by decide) (hC.1 26 (by decide) (by decide) (by decide))) (Sm.at hSz743 (by decide) (hC.1 27 (by decide) (by decide) (by decide))) (Sm.at hSz743 (by decide) (hC.1 28 (by decide) (by decide) (by decide))) (Sm.at hSz743 (by decide) (hC.1 29 (by decide) (by decide) (by decide)))) hI.tok.safe x z hz hx) (fun rz747 Mz748 hz749 => ?_)
  rw [hz749.1, hz749.2]
  show Zw 4 zm_CG_part 21 [some (.ref 0), some (.int x), some (.int z)] [.int (-2), .ref 0] Mz745 _
  refine zw_callV (as := [.int (-2)]) (rest := []) rfl rfl rfl (Sm.at hSz743 (by decide) (hC.1 0 (by decide) (by decide) (by decide))) rfl rfl rfl (by decide) (c_acted Mz745 (fset (fset (fset (fset f 33 (f 29)) 32 (f 28)) 31 (f 27)) 30 (up (f 30) 0 (f 26 0))) (CC.of (f' := fset (fset (fset (fset f 33 (f 29)) 32 (f 28)) 31 (f 27)) 30 (up (f 30) 0 (f 26 0))) hC (Sm.trans Sm.rf hSz743) ⟨by decide, by decide⟩ (d1_cons (hBz742.get 0 rfl) (d1_cons (hBz742.get 1 rfl) (d1_cons (hBz742.get 2 rfl) (d1_cons (hBz742.get 3 rfl) d1_nil)))) (fs_c (fs_c (fs_c (fs_c fs_n))))) hI.hsz hI.hen (-2)) (fun rz753 Mz754 hz755 => ?_)
  obtain ⟨hAz750, hPz751, hNz752⟩ := hz755
  rw [hAz750]
  show Zw 4 zm_CG_part 24 [some (.ref 0), some (.int x), some (.int z)] [.int (-2)] Mz754 _
  refine zw_iret rfl rfl ?_
  have hM9 := hNz752 (by decide)
  rw [hM9]
  exact ⟨rfl, fset (fset (fset (fset f 33 (f 29)) 32 (f 28)) 31 (f 27)) 30 (up (f 30) 0 (f 26 0)), (CC.of (f' := fset (fset (fset (fset f 33 (f 29)) 32 (f 28)) 31 (f 27)) 30 (up (f 30) 0 (f 26 0))) hC (Sm.trans Sm.rf hSz743) ⟨by decide, by decide⟩ (d1_cons (hBz742.get 0 rfl) (d1_cons (hBz742.get 1 rfl) (d1_cons (hBz742.get 2 rfl) (d1_cons (hBz742.get 3 rfl) d1_nil)))) (fs_c (fs_c (fs_c (fs_c fs_n))))), (Smc.of (S := [30, 31, 32, 33]) (Sm.trans Sm.rf hSz743) (by decide)), CInv.mono ⟨⟨hI.tl, hI.tx, hI.gram, hI.tok, hI.tok.any, hI.grn, hI.mvd, hI.hsz, hI.hen, hI.past, hI.lln, hI.kh, hI.kg, hI.kt, hI.cst, hI.csw, hI.csr, hI.ost, hI.osw, hI.osr, hI.tst, hI.rkn, hI.fnd, hI.ofs⟩, hI.cok, hI.blm, hI.tre, hI.rep⟩ (Nat.le_succ _), Asame.of (fs_c (fs_c (fs_c (fs_c fs_n)))) rfl (by decide)⟩

set_option maxHeartbeats 4000000 in
set_option maxRecDepth 100000 in
theorem c_partC9 (Mq : zM) (f : Nat → Nat → Nat) (L : Nat) (hC : CC Mq f) (hI : CInv L f) (hL : L < 100000) (x d : Nat) (hx : x < f 26 0) (hd : d < 40) (hp : ¬ ptOk (f 26 0) (f 28) (f 29) x d) : Zm 4 zm_CG_part [.ref 0, .int (nI x), .int (nI d)] Mq (fun r9 M1 => r9 = some (.int (-3)) ∧ ∃ f9, CC M1 f9 ∧ Smc Mq M1 ∧ CInv (L + 1) f9 ∧ Asame f f9) := by
  show Zw 4 zm_CG_part 0 [some (.ref 0), some (.int (nI x)), some (.int (nI d))] [] Mq _
  have hS : SafeT (f 26 0) (f 27) (f 28) (f 29) := hI.tok.safe
  have hc20 := hS.1
  have hl : ∀ q, f 28 q < L := hI.tok.lin
  have hL9 := hL
  refine zw_n 1 rfl ?_
  refine zw_get (v := .ref 30) rfl (hC.1 0 (by decide) (by decide) (by decide)) rfl ?_
  refine zw_n 1 rfl ?_
  refine zw_get (v := .ref 26) rfl (hC.1 0 (by decide) (by decide) (by decide)) rfl ?_
  refine zw_callV (as := [.ref 26]) (rest := []) rfl rfl rfl (hC.1 30 (by decide) (by decide) (by decide)) rfl rfl rfl (by decide) (c_copyTok Mq 30 26 (f 30 0) (f 31) (f 32) (f 33) (seg4 (hC.1 30 (by decide) (by decide) (by decide)) (hC.1 31 (by decide) (by decide) (by decide)) (hC.1 32 (by decide) (by decide) (by decide)) (hC.1 33 (by decide) (by decide) (by decide))) (f 26 0) (f 27) (f 28) (f 29) (seg4 (hC.1 26 (by decide) (by decide) (by decide)) (hC.1 27 (by decide) (by decide) (by decide)) (hC.1 28 (by decide) (by decide) (by decide)) (hC.1 29 (by decide) (by decide) (by decide))) (by omega)) (fun rz759 Mz760 hz761 => ?_)
  obtain ⟨hAz756, hBz757, hSz758⟩ := hz761
  rw [hAz756]
  show Zw 4 zm_CG_part 11 [some (.ref 0), some (.int (nI x)), some (.int (nI d))] [] Mz760 _
  refine zw_n 2 rfl ?_
  refine zw_get (v := .ref 26) rfl (Sm.at hSz758 (by decide) (hC.1 0 (by decide) (by decide) (by decide))) rfl ?_
  refine zw_n 2 rfl ?_
  refine zw_callV (as := [.int (nI x), .int (nI d)]) (rest := [.ref 0]) rfl rfl rfl (Sm.at hSz758 (by decide) (hC.1 26 (by decide) (by decide) (by decide))) rfl rfl rfl (by decide) (c_partOk Mz760 26 (f 26 0) (f 27) (f 28) (f 29) (seg4 (Sm.at hSz758 (by decide) (hC.1 26 (by decide) (by decide) (by decide))) (Sm.at hSz758 (by decide) (hC.1 27 (by decide) (by decide) (by decide))) (Sm.at hSz758 (by decide) (hC.1 28 (by decide) (by decide) (by decide))) (Sm.at hSz758 (by decide) (hC.1 29 (by decide) (by decide) (by decide)))) hI.tok.safe x d hx hd hI.tok.srt L hl (by omega)) (fun rz762 Mz763 hz764 => ?_)
  replace hz764 := hz764.1 hp
  rw [hz764.1, hz764.2]
  show Zw 4 zm_CG_part 21 [some (.ref 0), some (.int (nI x)), some (.int (nI d))] [.int (-3), .ref 0] Mz760 _
  refine zw_callV (as := [.int (-3)]) (rest := []) rfl rfl rfl (Sm.at hSz758 (by decide) (hC.1 0 (by decide) (by decide) (by decide))) rfl rfl rfl (by decide) (c_acted Mz760 (fset (fset (fset (fset f 33 (f 29)) 32 (f 28)) 31 (f 27)) 30 (up (f 30) 0 (f 26 0))) (CC.of (f' := fset (fset (fset (fset f 33 (f 29)) 32 (f 28)) 31 (f 27)) 30 (up (f 30) 0 (f 26 0))) hC (Sm.trans Sm.rf hSz758) ⟨by decide, by decide⟩ (d1_cons (hBz757.get 0 rfl) (d1_cons (hBz757.get 1 rfl) (d1_cons (hBz757.get 2 rfl) (d1_cons (hBz757.get 3 rfl) d1_nil)))) (fs_c (fs_c (fs_c (fs_c fs_n))))) hI.hsz hI.hen (-3)) (fun rz768 Mz769 hz770 => ?_)
  obtain ⟨hAz765, hPz766, hNz767⟩ := hz770
  rw [hAz765]
  show Zw 4 zm_CG_part 24 [some (.ref 0), some (.int (nI x)), some (.int (nI d))] [.int (-3)] Mz769 _
  refine zw_iret rfl rfl ?_
  have hM9 := hNz767 (by decide)
  rw [hM9]
  exact ⟨rfl, fset (fset (fset (fset f 33 (f 29)) 32 (f 28)) 31 (f 27)) 30 (up (f 30) 0 (f 26 0)), (CC.of (f' := fset (fset (fset (fset f 33 (f 29)) 32 (f 28)) 31 (f 27)) 30 (up (f 30) 0 (f 26 0))) hC (Sm.trans Sm.rf hSz758) ⟨by decide, by decide⟩ (d1_cons (hBz757.get 0 rfl) (d1_cons (hBz757.get 1 rfl) (d1_cons (hBz757.get 2 rfl) (d1_cons (hBz757.get 3 rfl) d1_nil)))) (fs_c (fs_c (fs_c (fs_c fs_n))))), (Smc.of (S := [30, 31, 32, 33]) (Sm.trans Sm.rf hSz758) (by decide)), CInv.mono ⟨⟨hI.tl, hI.tx, hI.gram, hI.tok, hI.tok.any, hI.grn, hI.mvd, hI.hsz, hI.hen, hI.past, hI.lln, hI.kh, hI.kg, hI.kt, hI.cst, hI.csw, hI.csr, hI.ost, hI.osw, hI.osr, hI.tst, hI.rkn, hI.fnd, hI.ofs⟩, hI.cok, hI.blm, hI.tre, hI.rep⟩ (Nat.le_succ _), Asame.of (fs_c (fs_c (fs_c (fs_c fs_n)))) rfl (by decide)⟩

set_option maxHeartbeats 4000000 in
set_option maxRecDepth 100000 in
theorem c_partOk9 (Mq : zM) (f : Nat → Nat → Nat) (L : Nat) (hC : CC Mq f) (hI : CInv L f) (hL : L < 100000) (x d : Nat) (hx : x < f 26 0) (hd : d < 40) (hp : ptOk (f 26 0) (f 28) (f 29) x d) : Zm 4 zm_CG_part [.ref 0, .int (nI x), .int (nI d)] Mq (fun r9 M1 => r9 = some (.int (nI (f 28 x + 1))) ∧ ∃ f9, CC M1 f9 ∧ Smc Mq M1 ∧ CInv (L + 1) f9 ∧ ActS f f9 ∧ f9 26 0 = f 26 0 ∧ f9 27 = f 27 ∧ ∀ q, q < f 26 0 → f9 28 q = ptL (f 28) x q ∧ f9 29 q = ptC (f 28) (f 29) x d q) := by
  show Zw 4 zm_CG_part 0 [some (.ref 0), some (.int (nI x)), some (.int (nI d))] [] Mq _
  have hS : SafeT (f 26 0) (f 27) (f 28) (f 29) := hI.tok.safe
  have hc20 := hS.1
  have hl : ∀ q, f 28 q < L := hI.tok.lin
  have hL9 := hL
  have hlx := hl x
  have hJ := hI.base.mono (Nat.le_succ L)
  refine zw_n 1 rfl ?_
  refine zw_get (v := .ref 30) rfl (hC.1 0 (by decide) (by decide) (by decide)) rfl ?_
  refine zw_n 1 rfl ?_
  refine zw_get (v := .ref 26) rfl (hC.1 0 (by decide) (by decide) (by decide)) rfl ?_
  refine zw_callV (as := [.ref 26]) (rest := []) rfl rfl rfl (hC.1 30 (by decide) (by decide) (by decide)) rfl rfl rfl (by decide) (c_copyTok Mq 30 26 (f 30 0) (f 31) (f 32) (f 33) (seg4 (hC.1 30 (by decide) (by decide) (by decide)) (hC.1 31 (by decide) (by decide) (by decide)) (hC.1 32 (by decide) (by decide) (by decide)) (hC.1 33 (by decide) (by decide) (by decide))) (f 26 0) (f 27) (f 28) (f 29) (seg4 (hC.1 26 (by decide) (by decide) (by decide)) (hC.1 27 (by decide) (by decide) (by decide)) (hC.1 28 (by decide) (by decide) (by decide)) (hC.1 29 (by decide) (by decide) (by decide))) (by omega)) (fun rz774 Mz775 hz776 => ?_)
  obtain ⟨hAz771, hBz772, hSz773⟩ := hz776
  rw [hAz771]
  show Zw 4 zm_CG_part 11 [some (.ref 0), some (.int (nI x)), some (.int (nI d))] [] Mz775 _
  refine zw_n 2 rfl ?_
  refine zw_get (v := .ref 26) rfl (Sm.at hSz773 (by decide) (hC.1 0 (by decide) (by decide) (by decide))) rfl ?_
  refine zw_n 2 rfl ?_
  refine zw_callV (as := [.int (nI x), .int (nI d)]) (rest := [.ref 0]) rfl rfl rfl (Sm.at hSz773 (by decide) (hC.1 26 (by decide) (by decide) (by decide))) rfl rfl rfl (by decide) (c_partOk Mz775 26 (f 26 0) (f 27) (f 28) (f 29) (seg4 (Sm.at hSz773 (by decide) (hC.1 26 (by decide) (by decide) (by decide))) (Sm.at hSz773 (by decide) (hC.1 27 (by decide) (by decide) (by decide))) (Sm.at hSz773 (by decide) (hC.1 28 (by decide) (by decide) (by decide))) (Sm.at hSz773 (by decide) (hC.1 29 (by decide) (by decide) (by decide)))) hI.tok.safe x d hx hd hI.tok.srt L hl (by omega)) (fun rz785 Mz786 hz787 => ?_)
  replace hz787 := hz787.2 hp
  obtain ⟨hAz784, liz777, coz778, hBz779, hSz780, hFz781, hTz782, hLz783⟩ := hz787
  rw [hAz784]
  show Zw 4 zm_CG_part 21 [some (.ref 0), some (.int (nI x)), some (.int (nI d))] [.int (nI (f 28 x + 1)), .ref 0] Mz786 _
  refine zw_callV (as := [.int (nI (f 28 x + 1))]) (rest := []) rfl rfl rfl (Sm.at hSz780 (by decide) (Sm.at hSz773 (by decide) (hC.1 0 (by decide) (by decide) (by decide)))) rfl rfl rfl (by decide) (c_acted Mz786 (fset (fset (fset (fset (fset (fset f 33 (f 29)) 32 (f 28)) 31 (f 27)) 30 (up (f 30) 0 (f 26 0))) 29 coz778) 28 liz777) (CC.of (f' := fset (fset (fset (fset (fset (fset f 33 (f 29)) 32 (f 28)) 31 (f 27)) 30 (up (f 30) 0 (f 26 0))) 29 coz778) 28 liz777) hC (Sm.tw (Sm.tw Sm.rf hSz773 (by decide)) hSz780 (by decide)) ⟨by decide, by decide⟩ (d1_cons (hBz779.get 2 rfl) (d1_cons (hBz779.get 3 rfl) (d1_cons (Sm.at hSz780 (by decide) (hBz772.get 0 rfl)) (d1_cons (Sm.at hSz780 (by decide) (hBz772.get 1 rfl)) (d1_cons (Sm.at hSz780 (by decide) (hBz772.get 2 rfl)) (d1_cons (Sm.at hSz780 (by decide) (hBz772.get 3 rfl)) d1_nil)))))) (fs_c (fs_c (fs_c (fs_c (fs_c (fs_c fs_n))))))) hI.hsz hI.hen (nI (f 28 x + 1))) (fun rz791 Mz792 hz793 => ?_)
  obtain ⟨hAz788, hPz789, hNz790⟩ := hz793
  rw [hAz788]
  show Zw 4 zm_CG_part 24 [some (.ref 0), some (.int (nI x)), some (.int (nI d))] [.int (nI (f 28 x + 1))] Mz792 _
  refine zw_iret rfl rfl ?_
  obtain ⟨hcc9, hsm9⟩ := hPz789 (by rw [nI_toInt (by omega)]; omega)
  have hb9 := act_tok (f1 := fset (fset (fset (fset (fset (fset f 33 (f 29)) 32 (f 28)) 31 (f 27)) 30 (up (f 30) 0 (f 26 0))) 29 coz778) 28 liz777) hI.hen
  exact ⟨rfl, chg (hRem (fset (fset (fset (fset (fset (fset f 33 (f 29)) 32 (f 28)) 31 (f 27)) 30 (up (f 30) 0 (f 26 0))) 29 coz778) 28 liz777)), hcc9, Smc.tr (Smc.of (S := [28, 29, 30, 31, 32, 33]) (Sm.tw (Sm.tw Sm.rf hSz773 (by decide)) hSz780 (by decide)) (by decide)) hsm9, CInv.chg (CBase.hrem (⟨hJ.tl, hJ.tx, hJ.gram, TOK.parted hI.tok hx hp hFz781 hLz783 hTz782, hJ.tok.any, hJ.grn, hJ.mvd, hJ.hsz, hJ.hen, hJ.past, hJ.lln, hJ.kh, hJ.kg, hJ.kt, hJ.cst, hJ.csw, hJ.csr, hJ.ost, hJ.osw, hJ.osr, hJ.tst, hJ.rkn, hJ.fnd, hJ.ofs⟩ : CBase (L + 1) (fset (fset (fset (fset (fset (fset f 33 (f 29)) 32 (f 28)) 31 (f 27)) 30 (up (f 30) 0 (f 26 0))) 29 coz778) 28 liz777)) (hI.tok.mono (Nat.le_succ _))), ActS.of hI.hen (act_out (fs_c (fs_c (fs_c (fs_c (fs_c (fs_c fs_n)))))) (by decide)) ⟨rfl, rfl, rfl, rfl⟩, by rw [hb9.1]; rfl, by rw [hb9.2.1]; rfl, fun q hq => by rw [hb9.2.2.1, hb9.2.2.2]; exact hTz782 q hq⟩
