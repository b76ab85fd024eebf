def lcg (x : Nat) : Nat := (25173 * x + 13849) % 65536
def hits (j : Nat) : Nat → Nat → Bool
  | 0, _ => false
  | n + 1, x => Nat.beq (x % 6) j || hits j n (lcg x)
def hB : Nat := 65535
def itM : Nat → Nat → Nat
  | 0, x => x
  | n + 1, x => itM n (lcg x)
theorem itM_add : ∀ m n x, itM (m + n) x = itM n (itM m x) := by
  intro m
  induction m with
  | zero => intro n x; rw [Nat.zero_add]; rfl
  | succ m ih => intro n x; rw [Nat.succ_add]; exact ih n (lcg x)
theorem itM_lt : ∀ n x, x < 65536 → itM n x < 65536 := by
  intro n
  induction n with
  | zero => intro x h; exact h
  | succ n ih => intro x _; exact ih (lcg x) (Nat.mod_lt _ (by decide))
theorem hits_of {j : Nat} : ∀ n N x, n < N → itM n x % 6 = j → hits j N x = true := by
  intro n
  induction n with
  | zero =>
    intro N x h e
    cases N with
    | zero => omega
    | succ N =>
      show (Nat.beq (x % 6) j || hits j N (lcg x)) = true
      have e2 : x % 6 = j := e
      rw [e2, Nat.beq_refl]; rfl
  | succ n ih =>
    intro N x h e
    cases N with
    | zero => omega
    | succ N =>
      show (Nat.beq (x % 6) j || hits j N (lcg x)) = true
      rw [ih N (lcg x) (by omega) e, Bool.or_true]
theorem af_0 (x : Nat) : itM 1 x = (25173 * x + 13849) % 65536 := rfl
theorem af_1 (x : Nat) : itM 2 x = (12345 * x + 48742) % 65536 := by
  rw [show (2 : Nat) = 1 + 1 from rfl, itM_add, af_0, af_0]; omega
theorem af_2 (x : Nat) : itM 4 x = (27825 * x + 17180) % 65536 := by
  rw [show (4 : Nat) = 2 + 2 from rfl, itM_add, af_1, af_1]; omega
theorem af_3 (x : Nat) : itM 8 x = (53857 * x + 31096) % 65536 := by
  rw [show (8 : Nat) = 4 + 4 from rfl, itM_add, af_2, af_2]; omega
theorem af_4 (x : Nat) : itM 16 x = (18625 * x + 61424) % 65536 := by
  rw [show (16 : Nat) = 8 + 8 from rfl, itM_add, af_3, af_3]; omega
theorem af_5 (x : Nat) : itM 32 x = (8577 * x + 21472) % 65536 := by
  rw [show (32 : Nat) = 16 + 16 from rfl, itM_add, af_4, af_4]; omega
theorem af_6 (x : Nat) : itM 64 x = (33537 * x + 30656) % 65536 := by
  rw [show (64 : Nat) = 32 + 32 from rfl, itM_add, af_5, af_5]; omega
theorem af_7 (x : Nat) : itM 128 x = (1537 * x + 12160) % 65536 := by
  rw [show (128 : Nat) = 64 + 64 from rfl, itM_add, af_6, af_6]; omega
theorem af_8 (x : Nat) : itM 256 x = (3073 * x + 24320) % 65536 := by
  rw [show (256 : Nat) = 128 + 128 from rfl, itM_add, af_7, af_7]; omega
theorem af_9 (x : Nat) : itM 512 x = (6145 * x + 48640) % 65536 := by
  rw [show (512 : Nat) = 256 + 256 from rfl, itM_add, af_8, af_8]; omega
theorem af_10 (x : Nat) : itM 1024 x = (12289 * x + 31744) % 65536 := by
  rw [show (1024 : Nat) = 512 + 512 from rfl, itM_add, af_9, af_9]; omega
theorem af_11 (x : Nat) : itM 2048 x = (24577 * x + 63488) % 65536 := by
  rw [show (2048 : Nat) = 1024 + 1024 from rfl, itM_add, af_10, af_10]; omega
theorem af_12 (x : Nat) : itM 4096 x = (49153 * x + 61440) % 65536 := by
  rw [show (4096 : Nat) = 2048 + 2048 from rfl, itM_add, af_11, af_11]; omega
theorem af_13 (x : Nat) : itM 8192 x = (32769 * x + 57344) % 65536 := by
  rw [show (8192 : Nat) = 4096 + 4096 from rfl, itM_add, af_12, af_12]; omega
theorem af_14 (x : Nat) : itM 16384 x = (1 * x + 49152) % 65536 := by
  rw [show (16384 : Nat) = 8192 + 8192 from rfl, itM_add, af_13, af_13]; omega
theorem af_15 (x : Nat) : itM 32768 x = (1 * x + 32768) % 65536 := by
  rw [show (32768 : Nat) = 16384 + 16384 from rfl, itM_add, af_14, af_14]; omega
theorem st_0 {x y : Nat} (hx : x < 65536) (hy : y < 65536) (h : ∃ n, n < 1 ∧ itM n x % 1 = y % 1) : ∃ n, n < 2 ∧ itM n x % 2 = y % 2 := by
  obtain ⟨n, hn, e⟩ := h
  have hz := itM_lt n x hx
  have h2 := itM_add n 1 x
  rw [af_0] at h2
  by_cases e2 : itM n x % 2 = y % 2
  · exact ⟨n, by omega, e2⟩
  · refine ⟨n + 1, by omega, ?_⟩
    have e3 : (25173 * itM n x + 13849) % 65536 % 2 = (itM n x + 1) % 2 := by rw [Nat.mod_mod_of_dvd _ (by decide)]; clear h2 hn e e2; omega
    rw [h2, e3]
    clear h2 hn e3
    omega
theorem st_1 {x y : Nat} (hx : x < 65536) (hy : y < 65536) (h : ∃ n, n < 2 ∧ itM n x % 2 = y % 2) : ∃ n, n < 4 ∧ itM n x % 4 = y % 4 := by
  obtain ⟨n, hn, e⟩ := h
  have hz := itM_lt n x hx
  have h2 := itM_add n 2 x
  rw [af_1] at h2
  by_cases e2 : itM n x % 4 = y % 4
  · exact ⟨n, by omega, e2⟩
  · refine ⟨n + 2, by omega, ?_⟩
    have e3 : (12345 * itM n x + 48742) % 65536 % 4 = (itM n x + 2) % 4 := by rw [Nat.mod_mod_of_dvd _ (by decide)]; clear h2 hn e e2; omega
    rw [h2, e3]
    clear h2 hn e3
    omega
theorem st_2 {x y : Nat} (hx : x < 65536) (hy : y < 65536) (h : ∃ n, n < 4 ∧ itM n x % 4 = y % 4) : ∃ n, n < 8 ∧ itM n x % 8 = y % 8 := by
  obtain ⟨n, hn, e⟩ := h
  have hz := itM_lt n x hx
  have h2 := itM_add n 4 x
  rw [af_2] at h2
  by_cases e2 : itM n x % 8 = y % 8
  · exact ⟨n, by omega, e2⟩
  · refine ⟨n + 4, by omega, ?_⟩
    have e3 : (27825 * itM n x + 17180) % 65536 % 8 = (itM n x + 4) % 8 := by rw [Nat.mod_mod_of_dvd _ (by decide)]; clear h2 hn e e2; omega
    rw [h2, e3]
    clear h2 hn e3
    omega
theorem st_3 {x y : Nat} (hx : x < 65536) (hy : y < 65536) (h : ∃ n, n < 8 ∧ itM n x % 8 = y % 8) : ∃ n, n < 16 ∧ itM n x % 16 = y % 16 := by
  obtain ⟨n, hn, e⟩ := h
  have hz := itM_lt n x hx
  have h2 := itM_add n 8 x
  rw [af_3] at h2
  by_cases e2 : itM n x % 16 = y % 16
  · exact ⟨n, by omega, e2⟩
  · refine ⟨n + 8, by omega, ?_⟩
    have e3 : (53857 * itM n x + 31096) % 65536 % 16 = (itM n x + 8) % 16 := by rw [Nat.mod_mod_of_dvd _ (by decide)]; clear h2 hn e e2; omega
    rw [h2, e3]
    clear h2 hn e3
    omega
theorem st_4 {x y : Nat} (hx : x < 65536) (hy : y < 65536) (h : ∃ n, n < 16 ∧ itM n x % 16 = y % 16) : ∃ n, n < 32 ∧ itM n x % 32 = y % 32 := by
  obtain ⟨n, hn, e⟩ := h
  have hz := itM_lt n x hx
  have h2 := itM_add n 16 x
  rw [af_4] at h2
  by_cases e2 : itM n x % 32 = y % 32
  · exact ⟨n, by omega, e2⟩
  · refine ⟨n + 16, by omega, ?_⟩
    have e3 : (18625 * itM n x + 61424) % 65536 % 32 = (itM n x + 16) % 32 := by rw [Nat.mod_mod_of_dvd _ (by decide)]; clear h2 hn e e2; omega
    rw [h2, e3]
    clear h2 hn e3
    omega
theorem st_5 {x y : Nat} (hx : x < 65536) (hy : y < 65536) (h : ∃ n, n < 32 ∧ itM n x % 32 = y % 32) : ∃ n, n < 64 ∧ itM n x % 64 = y % 64 := by
  obtain ⟨n, hn, e⟩ := h
  have hz := itM_lt n x hx
  have h2 := itM_add n 32 x
  rw [af_5] at h2
  by_cases e2 : itM n x % 64 = y % 64
  · exact ⟨n, by omega, e2⟩
  · refine ⟨n + 32, by omega, ?_⟩
    have e3 : (8577 * itM n x + 21472) % 65536 % 64 = (itM n x + 32) % 64 := by rw [Nat.mod_mod_of_dvd _ (by decide)]; clear h2 hn e e2; omega
    rw [h2, e3]
    clear h2 hn e3
    omega
theorem st_6 {x y : Nat} (hx : x < 65536) (hy : y < 65536) (h : ∃ n, n < 64 ∧ itM n x % 64 = y % 64) : ∃ n, n < 128 ∧ itM n x % 128 = y % 128 := by
  obtain ⟨n, hn, e⟩ := h
  have hz := itM_lt n x hx
  have h2 := itM_add n 64 x
  rw [af_6] at h2
  by_cases e2 : itM n x % 128 = y % 128
  · exact ⟨n, by omega, e2⟩
  · refine ⟨n + 64, by omega, ?_⟩
    have e3 : (33537 * itM n x + 30656) % 65536 % 128 = (itM n x + 64) % 128 := by rw [Nat.mod_mod_of_dvd _ (by decide)]; clear h2 hn e e2; omega
    rw [h2, e3]
    clear h2 hn e3
    omega
theorem st_7 {x y : Nat} (hx : x < 65536) (hy : y < 65536) (h : ∃ n, n < 128 ∧ itM n x % 128 = y % 128) : ∃ n, n < 256 ∧ itM n x % 256 = y % 256 := by
  obtain ⟨n, hn, e⟩ := h
  have hz := itM_lt n x hx
  have h2 := itM_add n 128 x
  rw [af_7] at h2
  by_cases e2 : itM n x % 256 = y % 256
  · exact ⟨n, by omega, e2⟩
  · refine ⟨n + 128, by omega, ?_⟩
    have e3 : (1537 * itM n x + 12160) % 65536 % 256 = (itM n x + 128) % 256 := by rw [Nat.mod_mod_of_dvd _ (by decide)]; clear h2 hn e e2; omega
    rw [h2, e3]
    clear h2 hn e3
    omega
theorem st_8 {x y : Nat} (hx : x < 65536) (hy : y < 65536) (h : ∃ n, n < 256 ∧ itM n x % 256 = y % 256) : ∃ n, n < 512 ∧ itM n x % 512 = y % 512 := by
  obtain ⟨n, hn, e⟩ := h
  have hz := itM_lt n x hx
  have h2 := itM_add n 256 x
  rw [af_8] at h2
  by_cases e2 : itM n x % 512 = y % 512
  · exact ⟨n, by omega, e2⟩
  · refine ⟨n + 256, by omega, ?_⟩
    have e3 : (3073 * itM n x + 24320) % 65536 % 512 = (itM n x + 256) % 512 := by rw [Nat.mod_mod_of_dvd _ (by decide)]; clear h2 hn e e2; omega
    rw [h2, e3]
    clear h2 hn e3
    omega
theorem st_9 {x y : Nat} (hx : x < 65536) (hy : y < 65536) (h : ∃ n, n < 512 ∧ itM n x % 512 = y % 512) : ∃ n, n < 1024 ∧ itM n x % 1024 = y % 1024 := by
  obtain ⟨n, hn, e⟩ := h
  have hz := itM_lt n x hx
  have h2 := itM_add n 512 x
  rw [af_9] at h2
  by_cases e2 : itM n x % 1024 = y % 1024
  · exact ⟨n, by omega, e2⟩
  · refine ⟨n + 512, by omega, ?_⟩
    have e3 : (6145 * itM n x + 48640) % 65536 % 1024 = (itM n x + 512) % 1024 := by rw [Nat.mod_mod_of_dvd _ (by decide)]; clear h2 hn e e2; omega
    rw [h2, e3]
    clear h2 hn e3
    omega
theorem st_10 {x y : Nat} (hx : x < 65536) (hy : y < 65536) (h : ∃ n, n < 1024 ∧ itM n x % 1024 = y % 1024) : ∃ n, n < 2048 ∧ itM n x % 2048 = y % 2048 := by
  obtain ⟨n, hn, e⟩ := h
  have hz := itM_lt n x hx
  have h2 := itM_add n 1024 x
  rw [af_10] at h2
  by_cases e2 : itM n x % 2048 = y % 2048
  · exact ⟨n, by omega, e2⟩
  · refine ⟨n + 1024, by omega, ?_⟩
    have e3 : (12289 * itM n x + 31744) % 65536 % 2048 = (itM n x + 1024) % 2048 := by rw [Nat.mod_mod_of_dvd _ (by decide)]; clear h2 hn e e2; omega
    rw [h2, e3]
    clear h2 hn e3
    omega
theorem st_11 {x y : Nat} (hx : x < 65536) (hy : y < 65536) (h : ∃ n, n < 2048 ∧ itM n x % 2048 = y % 2048) : ∃ n, n < 4096 ∧ itM n x % 4096 = y % 4096 := by
  obtain ⟨n, hn, e⟩ := h
  have hz := itM_lt n x hx
  have h2 := itM_add n 2048 x
  rw [af_11] at h2
  by_cases e2 : itM n x % 4096 = y % 4096
  · exact ⟨n, by omega, e2⟩
  · refine ⟨n + 2048, by omega, ?_⟩
    have e3 : (24577 * itM n x + 63488) % 65536 % 4096 = (itM n x + 2048) % 4096 := by rw [Nat.mod_mod_of_dvd _ (by decide)]; clear h2 hn e e2; omega
    rw [h2, e3]
    clear h2 hn e3
    omega
theorem st_12 {x y : Nat} (hx : x < 65536) (hy : y < 65536) (h : ∃ n, n < 4096 ∧ itM n x % 4096 = y % 4096) : ∃ n, n < 8192 ∧ itM n x % 8192 = y % 8192 := by
  obtain ⟨n, hn, e⟩ := h
  have hz := itM_lt n x hx
  have h2 := itM_add n 4096 x
  rw [af_12] at h2
  by_cases e2 : itM n x % 8192 = y % 8192
  · exact ⟨n, by omega, e2⟩
  · refine ⟨n + 4096, by omega, ?_⟩
    have e3 : (49153 * itM n x + 61440) % 65536 % 8192 = (itM n x + 4096) % 8192 := by rw [Nat.mod_mod_of_dvd _ (by decide)]; clear h2 hn e e2; omega
    rw [h2, e3]
    clear h2 hn e3
    omega
theorem st_13 {x y : Nat} (hx : x < 65536) (hy : y < 65536) (h : ∃ n, n < 8192 ∧ itM n x % 8192 = y % 8192) : ∃ n, n < 16384 ∧ itM n x % 16384 = y % 16384 := by
  obtain ⟨n, hn, e⟩ := h
  have hz := itM_lt n x hx
  have h2 := itM_add n 8192 x
  rw [af_13] at h2
  by_cases e2 : itM n x % 16384 = y % 16384
  · exact ⟨n, by omega, e2⟩
  · refine ⟨n + 8192, by omega, ?_⟩
    have e3 : (32769 * itM n x + 57344) % 65536 % 16384 = (itM n x + 8192) % 16384 := by rw [Nat.mod_mod_of_dvd _ (by decide)]; clear h2 hn e e2; omega
    rw [h2, e3]
    clear h2 hn e3
    omega
theorem st_14 {x y : Nat} (hx : x < 65536) (hy : y < 65536) (h : ∃ n, n < 16384 ∧ itM n x % 16384 = y % 16384) : ∃ n, n < 32768 ∧ itM n x % 32768 = y % 32768 := by
  obtain ⟨n, hn, e⟩ := h
  have hz := itM_lt n x hx
  have h2 := itM_add n 16384 x
  rw [af_14] at h2
  by_cases e2 : itM n x % 32768 = y % 32768
  · exact ⟨n, by omega, e2⟩
  · refine ⟨n + 16384, by omega, ?_⟩
    have e3 : (1 * itM n x + 49152) % 65536 % 32768 = (itM n x + 16384) % 32768 := by rw [Nat.mod_mod_of_dvd _ (by decide)]; clear h2 hn e e2; omega
    rw [h2, e3]
    clear h2 hn e3
    omega
theorem st_15 {x y : Nat} (hx : x < 65536) (hy : y < 65536) (h : ∃ n, n < 32768 ∧ itM n x % 32768 = y % 32768) : ∃ n, n < 65536 ∧ itM n x % 65536 = y % 65536 := by
  obtain ⟨n, hn, e⟩ := h
  have hz := itM_lt n x hx
  have h2 := itM_add n 32768 x
  rw [af_15] at h2
  by_cases e2 : itM n x % 65536 = y % 65536
  · exact ⟨n, by omega, e2⟩
  · refine ⟨n + 32768, by omega, ?_⟩
    have e3 : (1 * itM n x + 32768) % 65536 % 65536 = (itM n x + 32768) % 65536 := by rw [Nat.mod_mod_of_dvd _ (by decide)]; clear h2 hn e e2; omega
    rw [h2, e3]
    clear h2 hn e3
    omega
theorem lcg_all {x y : Nat} (hx : x < 65536) (hy : y < 65536) : ∃ n, n < 65536 ∧ itM n x = y := by
  obtain ⟨n, hn, e⟩ := st_15 hx hy (st_14 hx hy (st_13 hx hy (st_12 hx hy (st_11 hx hy (st_10 hx hy (st_9 hx hy (st_8 hx hy (st_7 hx hy (st_6 hx hy (st_5 hx hy (st_4 hx hy (st_3 hx hy (st_2 hx hy (st_1 hx hy (st_0 hx hy (⟨0, by decide, by rw [Nat.mod_one, Nat.mod_one]⟩))))))))))))))))
  have hz := itM_lt n x hx
  exact ⟨n, hn, by omega⟩
theorem hits4 {j x : Nat} (hj : j < 6) (hx : x < 65536) : hits j (hB + 1) x = true := by
  obtain ⟨n, hn, e⟩ := lcg_all (y := j) hx (by omega)
  exact hits_of n (hB + 1) x (by have hB9 : hB = 65535 := rfl; omega) (by rw [e]; omega)
