set_option maxRecDepth 20000 in
theorem k_settle {G : gT} {d : Nat} {S : sS} {V : sV} {P : sP} {A : sV} {B : sB} {Q : sP} {t sl : Nat} {al : Nat → Int32} {sh ls p tm q : Nat} (hK : KB S V P A B Q t al sh ls p tm q) {lo hi am : Nat} {goal : Int32} (ham : S am = (20, 12)) (ham2 : am = 69 ∨ am = 109) (hlh : lo ≤ hi) (hlo40 : lo ≤ 40) (hhi40 : hi ≤ 40) : WQ G (d + 4) mX10_settle 0 [some (.ref 107), some (.int (sI lo)), some (.int (sI hi)), some (.int goal), some (.ref am), none, none, none, none, none, none, none] [] (t, sl, gh S V P A B Q) (fun r h' => r = none ∧ ∃ (A' : sV) (B' : sB), h' = (t, sl, gh S V P A' B' Q) ∧ KB S V P A' B' Q t al sh ls p tm q ∧ SR A' (TT (atm al p tm) p q) (kpM (A am)) (lgN al q) (rf_e goal) (asks al 6) lo hi 0 ∧ FrS2 A B A' B') := by
  have hn := hK.len
  refine WQ.st (fun _ _ kz => pw_aload0 dX10_settle_0 kz) ?_
  refine WQ.st (fun _ _ kz => pw_getr gX10_45 dX10_settle_1 (cf_s107 hK.cf) (cf_p107_4 hK.cf) kz) ?_
  refine WQ.st (fun _ _ kz => pw_geti gX10_55 dX10_settle_4 (cf_s96 hK.cf) kz) ?_
  rw [hn.1]
  refine WQ.st (fun _ _ kz => pw_bipush (v := 12) dX10_settle_7 (by decide) kz) ?_
  refine WQ.st (fun _ _ kz => pw_min mmX10_60 dX10_settle_9 (Nat.le_of_ble_eq_true rfl) (by omega) kz) ?_
  refine WQ.st (fun _ _ kz => pw_istore5 dX10_settle_12 (by decide) (k := kz)) ?_
  refine WQ.st (fun _ _ kz => pw_iconst (v := 0) dX10_settle_14 (by decide) kz) ?_
  refine WQ.st (fun _ _ kz => pw_istore6 dX10_settle_15 (by decide) (k := kz)) ?_
  rw [show (if (12 : Int32) < nI (lgN al q) then 12 else nI (lgN al q)) = nI (lgN al q) from if_neg (by rw [nl_12, lt_i (ix_n (j := 12) (by omega)) (ix_n (j := (lgN al q)) (by omega))]; omega)]
  exact l_settle4 (A0 := A) (B0 := B) ham ham2 hlh hlo40 hhi40 205 0 A rfl hK (fun j hj => by omega) FrS2.rfl
