/-! ===== all forty calls ===== -/
theorem kX_all (hN : kX_never) (X : mm_X) : kAll X := ⟨kf_feed, kf_end, kf_kite, kf_rules, kf_fault, kf_told, kf_state, kf_leads, kf_wind, kf_winds, kf_pull, kf_safe, kf_gives, (kf_best hN).k id, kf_looped.k id, kf_judge, kf_judged, kf_keep', kf_fly, kf_flown, kf_held, kf_tired, kf_rounds, (kf_plan hN).k id, kf_planned.k id, kf_apart, kf_shift, kf_stand, kf_field, kf_fielded, kf_law, kf_breach, kf_hidden, kf_pulls, kf_read, kf_right, kf_fit, kf_next, kf_count⟩
/-- the law's walk, over the one thing that is wanting -/
theorem whole_if (hN : kX_never) {p : Program} {e : Env} {s : State} {m : MethodId} {below : List Frame} {meth : Method} {c : Code} (l : Launch) {b L : Nat} {xs : Nat → Int32} (hL : L ≤ 3584) (C0 : lw_At p s m meth c b L xs) : W p l e room_1 s m #[Value.ref b] below meth c s.heap [] 0 0 (lw_Z below #[Value.ref b] s) (entryFrame m ([Value.ref b] : List Value).toArray 4) := kL_whole (fun X _ _ => kX_all hN X) l hL C0

