section LOOKS
variable {t : Nat} {S : S_X5}
theorem ev_feeler {x : AF} (f1 : cX2 (g_X5_frame S) x) {j : Nat} (hj : j < 7) : m_X5_feeler S (nI j) = some (.inr (if j < ar x then nI (av x j) else -1)) := by
  unfold m_X5_feeler
  rw [if_neg (by rw [q_lt0 (by omega)]; exact id), if_pos (by rw [show (6 : Int32) = nI 6 from rfl, q_le (by omega) (by decide)]; omega), q_b (ev_feedOf f1.2.1 hj)]
theorem ev_setting {x : AF} (f1 : cX2 (g_X5_frame S) x) {i : Nat} (hi : i < 5) : m_X5_setting S (nI i) = some (.inr (nI (ag x i))) := by
  have zs : m_X5_isSetting (nI i) = some 1 := by
    unfold m_X5_isSetting
    rw [if_neg (by rw [q_lt0 (by omega)]; exact id), if_neg (by rw [show (5 : Int32) = nI 5 from rfl, q_le (by decide) (by omega)]; omega)]
  unfold m_X5_setting
  rw [q_b zs, if_neg (by decide), q_b (ev_settingOf f1 hi)]
end LOOKS
