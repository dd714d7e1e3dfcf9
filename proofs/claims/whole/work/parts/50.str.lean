/-! STRING.length, charAt, on the texts -/
theorem st_all : ∀ i, i < 18 → (pm_sl.getD i 0 = (pm_sb.getD i []).length ∧ pm_sl.getD i 0 < 100 ∧ ∀ k, k < pm_sl.getD i 0 → ((((pm_sb.getD i []).getD k 0) &&& 255).toUInt32 % 65536).toInt32 = (pm_sb.getD i []).getD k 0 ∧ narrow .char (.int ((pm_sb.getD i []).getD k 0)) = .int ((pm_sb.getD i []).getD k 0)) := by decide +kernel
section SR
variable {l : Launch} {X : pm_X} {G : pm_G} {i : Nat}
theorem c_Str_coder (hi : i < 18) : cn_M l X m_Str_coder 0 0 0 [.ref (pm_sa X i)] G (fun r G' => r = some (.int 0) ∧ G = G') := by
  refine cn_in rfl (Nat.le_of_ble_eq_true rfl) ?_
  refine ev_getsC rfl d_Str_coder_0 ?_
  refine ev_if_eq 13 d_Str_coder_3 (by decide) (fun hz => absurd hz (by decide)) (fun _ => ?_)
  refine ev_aload_n d_Str_coder_6 rfl rfl ?_
  refine ev_getCo rfl d_Str_coder_7 hi ?_
  refine ev_goto 14 d_Str_coder_10 (by decide) ?_
  exact ev_zret d_Str_coder_14 rfl rfl (⟨rfl, rfl⟩)
theorem c_Str_isLatin1 (hi : i < 18) : cn_M l X m_Str_isLatin1 0 0 0 [.ref (pm_sa X i)] G (fun r G' => r = some (.int 1) ∧ G = G') := by
  refine cn_in rfl (Nat.le_of_ble_eq_true rfl) ?_
  refine ev_getsC rfl d_Str_isLatin1_0 ?_
  refine ev_if_eq 17 d_Str_isLatin1_3 (by decide) (fun hz => absurd hz (by decide)) (fun _ => ?_)
  refine ev_aload_n d_Str_isLatin1_6 rfl rfl ?_
  refine ev_getCo rfl d_Str_isLatin1_7 hi ?_
  refine ev_if_ne 17 d_Str_isLatin1_10 (by decide) (fun hz => absurd rfl hz) (fun _ => ?_)
  refine ev_iconst (v := 1) d_Str_isLatin1_13 (by decide) ?_
  refine ev_goto 18 d_Str_isLatin1_14 (by decide) ?_
  exact ev_zret d_Str_isLatin1_18 rfl rfl (⟨rfl, rfl⟩)
theorem c_Str_length (hi : i < 18) : cn_M l X m_Str_length 1 0 0 [.ref (pm_sa X i)] G (fun r G' => r = some (.int (nI (pm_sl.getD i 0))) ∧ G = G') := by
  refine cn_in rfl (Nat.le_of_ble_eq_true rfl) ?_
  refine ev_aload_n d_Str_length_0 rfl rfl ?_
  refine ev_getV rfl d_Str_length_1 hi ?_
  refine ev_tlen d_Str_length_4 hi ?_
  refine ev_aload_n d_Str_length_5 rfl rfl ?_
  refine ev_callT (i := i) [] d_Str_length_6 ck_Str_coder ml_Str_335 im_Str_coder se_Str_coder hi (c_Str_coder hi) rfl (by omega) (Nat.le_of_ble_eq_true rfl) (by omega) (by omega) ?_
  rintro _ _ ⟨rfl, rfl⟩
  refine ev_ishr d_Str_length_9 ?_
  exact ev_iret d_Str_length_10 rfl (⟨by rw [sb_shr0], rfl⟩)
theorem c_Str_checkIndex {k n : Nat} (hk : k < n) (hn : n < 2 ^ 31) : cn_M l X m_Str_checkIndex 1 0 0 [.int (nI k), .int (nI n)] G (fun r G' => r = none ∧ G = G') := by
  refine cn_in rfl (Nat.le_of_ble_eq_true rfl) ?_
  refine ev_iload_n d_Str_checkIndex_0 rfl rfl ?_
  refine ev_iload_n d_Str_checkIndex_1 rfl rfl ?_
  refine ev_getsS rfl d_Str_checkIndex_2 ?_
  refine ev_callS3 d_Str_checkIndex_5 ck_Prec_checkIndex ml_Str_1059 sm_Prec_checkIndex (c_Prec_checkIndex hk hn) (by omega) (Nat.le_of_ble_eq_true rfl) (by omega) (by omega) ?_
  rintro _ _ ⟨rfl, rfl⟩
  refine ev_pop d_Str_checkIndex_8 rfl ?_
  exact ev_vret d_Str_checkIndex_9 rfl (⟨rfl, rfl⟩)
theorem c_Lat_charAt {k : Nat} (hi : i < 18) (hk : k < pm_sl.getD i 0) : cn_M l X m_Lat_charAt 2 0 0 [.ref (X.2.2.2.1 (2 * i + 3)), .int (nI k)] G (fun r G' => r = some (.int ((pm_sb.getD i []).getD k 0)) ∧ G = G') := by
  obtain ⟨s1, s2, s3⟩ := st_all i hi
  refine cn_in rfl (Nat.le_of_ble_eq_true rfl) ?_
  refine ev_iload_n d_Lat_charAt_0 rfl rfl ?_
  refine ev_aload_n d_Lat_charAt_1 rfl rfl ?_
  refine ev_tlen d_Lat_charAt_2 hi ?_
  refine ev_callS2 d_Lat_charAt_3 ck_Str_checkIndex ml_Lat_9 sm_Str_checkIndex (c_Str_checkIndex hk (by omega)) (by omega) (Nat.le_of_ble_eq_true rfl) (by omega) (by omega) ?_
  rintro _ _ ⟨rfl, rfl⟩
  refine ev_aload_n d_Lat_charAt_6 rfl rfl ?_
  refine ev_iload_n d_Lat_charAt_7 rfl rfl ?_
  refine ev_tb d_Lat_charAt_8 hi (vp_in_nI hk (by omega)) ?_
  rw [nI_clamp (by omega)]
  refine ev_sipush (v := 255) d_Lat_charAt_9 (by decide) ?_
  refine ev_iand d_Lat_charAt_12 ?_
  refine ev_i2c d_Lat_charAt_13 ?_
  rw [(s3 k hk).1]
  exact ev_zret d_Lat_charAt_14 rfl (s3 k hk).2 ⟨rfl, rfl⟩
theorem c_Str_charAt {k : Nat} (hi : i < 18) (hk : k < pm_sl.getD i 0) : cn_M l X m_Str_charAt 3 0 0 [.ref (pm_sa X i), .int (nI k)] G (fun r G' => r = some (.int ((pm_sb.getD i []).getD k 0)) ∧ G = G') := by
  obtain ⟨s1, s2, s3⟩ := st_all i hi
  refine cn_in rfl (Nat.le_of_ble_eq_true rfl) ?_
  refine ev_aload_n d_Str_charAt_0 rfl rfl ?_
  refine ev_callT (i := i) [] d_Str_charAt_1 ck_Str_isLatin1 ml_Str_492 im_Str_isLatin1 se_Str_isLatin1 hi (c_Str_isLatin1 hi) rfl (by omega) (Nat.le_of_ble_eq_true rfl) (by omega) (by omega) ?_
  rintro _ _ ⟨rfl, rfl⟩
  refine ev_if_eq 16 d_Str_charAt_4 (by decide) (fun hz => absurd hz (by decide)) (fun _ => ?_)
  refine ev_aload_n d_Str_charAt_7 rfl rfl ?_
  refine ev_getV rfl d_Str_charAt_8 hi ?_
  refine ev_iload_n d_Str_charAt_11 rfl rfl ?_
  refine ev_callS2 d_Str_charAt_12 ck_Lat_charAt ml_Str_495 sm_Lat_charAt (c_Lat_charAt hi hk) (by omega) (Nat.le_of_ble_eq_true rfl) (by omega) (by omega) ?_
  rintro _ _ ⟨rfl, rfl⟩
  exact ev_zret d_Str_charAt_15 rfl (s3 k hk).2 ⟨rfl, rfl⟩
end SR
