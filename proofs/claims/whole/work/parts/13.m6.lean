def cl_s (s n : Nat) (b : Bool) : Int32 := if b = false then 0 else if s = 12 then nI n else if s = 13 then -nI n else 0
def cl_w (s n : Nat) (b : Bool) : Int32 := if b = false then 0 else if s = 14 then nI n else 0
set_option maxRecDepth 100000 in
set_option maxHeartbeats 4000000 in
theorem looks_c12 {X : zX} {Ko : Option Value → Hp → Prop} {h : Hp} {m : Nat} {F : Nat → Int32} {A : Nat → Nat → Int32} {a1 a2 a3 i5 : Int32} (B : zB X cX12_looks 10 yX12_looks.cls yX12_looks.name none) {t : Int32} {n : Nat} {b : Bool} (e4 : A 4 0 = b2 b) (hn : n ≤ 99) (k : AW X 0 0 96 (LL m a1 a2 a3 (0) (i5 + 1)) [] (hM (zXg X) h m (upd (upd F 11 (F 11 + cl_s 12 n b)) 12 (F 12 + cl_w 12 n b)) (A)) Ko) : AW X 0 0 111 (LL m a1 a2 a3 (t) i5) [.int (cd 12 n)] (hM (zXg X) h m F A) Ko := by
  unfold LL
  obtain ⟨ei, es⟩ := cd12 n (by omega)
  rw [show cd 12 n = -10 - nI n from rfl]
  generalize hxx : -10 - nI n = x at ei es ⊢
  have t0 : (0 : Int32).toInt = 0 := by decide
  have t1 : (-1 : Int32).toInt = -1 := by decide
  have t10 : (-10 : Int32).toInt = -10 := by decide
  have t200 : (-200 : Int32).toInt = -200 := by decide
  have t400 : (-400 : Int32).toInt = -400 := by decide
  have c1 : x < 0 := by rw [Int32.lt_iff_toInt_lt, ei, t0]; omega
  have c2 : ¬ x = -1 := fun z => by rw [z, t1] at ei; omega
  have c3 : x ≤ -10 := by rw [Int32.le_iff_toInt_le, ei, t10]; omega
  have c4 : (-400 : Int32) < x := by rw [Int32.lt_iff_toInt_lt, ei, t400]; omega
  have c5 : ¬ x ≤ -200 := by rw [Int32.le_iff_toInt_le, ei, t200]; omega
  cases b
  · refine aw_istore6 B dX12_looks_111 ?_
    refine aw_iload B dX12_looks_113 rfl ?_
    refine aw_if_lt B 212 dX12_looks_115 (fun c115 => ?_) (fun c115 => absurd c1 c115)
    refine aw_iload B dX12_looks_212 rfl ?_
    refine aw_iconst B (-1) (by decide) dX12_looks_214 ?_
    refine aw_icmp_ne B 247 dX12_looks_215 (fun c215 => ?_) (fun c215 => absurd c215 c2)
    refine aw_iload B dX12_looks_247 rfl ?_
    refine aw_bipush B (-10) (by decide) dX12_looks_249 ?_
    refine aw_icmp_le B 333 dX12_looks_251 (fun c251 => ?_) (fun c251 => absurd c3 c251)
    refine aw_iconst B 0 (by decide) dX12_looks_333 ?_
    refine aw_istore4 B dX12_looks_334 ?_
    refine aw_aload_n B 0 rfl dX12_looks_336 rfl ?_
    refine m_get B f_X12_21 dX12_looks_337 (mg_10 _ _) ?_
    refine aw_iconst B 0 (by decide) dX12_looks_340 ?_
    refine m_zld B (0) (rfl) ((by decide)) dX12_looks_341 ?_
    rw [e4]
    refine aw_istore7 B dX12_looks_342 ?_
    refine aw_aload_n B 0 rfl dX12_looks_344 rfl ?_
    refine aw_dup B rfl dX12_looks_345 ?_
    refine m_get B f_X12_121 dX12_looks_346 (mg_11 _ _) ?_
    refine aw_iload B dX12_looks_349 rfl ?_
    refine aw_if_eq B 362 dX12_looks_351 (fun c351 => ?_) (fun c351 => absurd rfl c351)
    refine aw_iconst B 0 (by decide) dX12_looks_362 ?_
    refine aw_goto B 388 dX12_looks_363 ?_
    refine aw_iadd B dX12_looks_388 ?_
    refine m_put B f_X12_121 dX12_looks_389 (ms_11 _ _ _) (by decide) ?_
    refine aw_aload_n B 0 rfl dX12_looks_392 rfl ?_
    refine aw_dup B rfl dX12_looks_393 ?_
    refine m_get B f_X12_124 dX12_looks_394 (mg_12 _ _) ?_
    refine aw_iload B dX12_looks_397 rfl ?_
    refine aw_if_eq B 419 dX12_looks_399 (fun c399 => ?_) (fun c399 => absurd rfl c399)
    refine aw_iconst B 0 (by decide) dX12_looks_419 ?_
    refine aw_iadd B dX12_looks_420 ?_
    refine m_put B f_X12_124 dX12_looks_421 (ms_12 _ _ _) (by decide) ?_
    refine aw_iinc5 B 1 (by decide) dX12_looks_424 ?_
    refine aw_goto B 96 dX12_looks_427 ?_
    rw [show cl_s 12 n false = 0 from rfl, show cl_w 12 n false = 0 from rfl] at k
    refine AW.weak ?_ k
    exact ⟨Or.inr rfl, Or.inr rfl, Or.inr rfl, Or.inr rfl, Or.inr rfl, Or.inr rfl, Or.inl rfl, Or.inl rfl, Or.inl rfl, Or.inl rfl, trivial⟩
  · refine aw_istore6 B dX12_looks_111 ?_
    refine aw_iload B dX12_looks_113 rfl ?_
    refine aw_if_lt B 212 dX12_looks_115 (fun c115 => ?_) (fun c115 => absurd c1 c115)
    refine aw_iload B dX12_looks_212 rfl ?_
    refine aw_iconst B (-1) (by decide) dX12_looks_214 ?_
    refine aw_icmp_ne B 247 dX12_looks_215 (fun c215 => ?_) (fun c215 => absurd c215 c2)
    refine aw_iload B dX12_looks_247 rfl ?_
    refine aw_bipush B (-10) (by decide) dX12_looks_249 ?_
    refine aw_icmp_le B 333 dX12_looks_251 (fun c251 => ?_) (fun c251 => absurd c3 c251)
    refine aw_iconst B 0 (by decide) dX12_looks_333 ?_
    refine aw_istore4 B dX12_looks_334 ?_
    refine aw_aload_n B 0 rfl dX12_looks_336 rfl ?_
    refine m_get B f_X12_21 dX12_looks_337 (mg_10 _ _) ?_
    refine aw_iconst B 0 (by decide) dX12_looks_340 ?_
    refine m_zld B (0) (rfl) ((by decide)) dX12_looks_341 ?_
    rw [e4]
    refine aw_istore7 B dX12_looks_342 ?_
    refine aw_aload_n B 0 rfl dX12_looks_344 rfl ?_
    refine aw_dup B rfl dX12_looks_345 ?_
    refine m_get B f_X12_121 dX12_looks_346 (mg_11 _ _) ?_
    refine aw_iload B dX12_looks_349 rfl ?_
    refine aw_if_eq B 362 dX12_looks_351 (fun c351 => absurd c351 (by decide)) (fun c351 => ?_)
    refine aw_iload B dX12_looks_354 rfl ?_
    refine aw_sipush B (-400) (by decide) dX12_looks_356 ?_
    refine aw_icmp_gt B 366 dX12_looks_359 (fun c359 => ?_) (fun c359 => absurd c4 c359)
    refine aw_iload B dX12_looks_366 rfl ?_
    refine aw_sipush B (-200) (by decide) dX12_looks_368 ?_
    refine aw_icmp_le B 382 dX12_looks_371 (fun c371 => absurd c371 c5) (fun c371 => ?_)
    refine aw_bipush B (-10) (by decide) dX12_looks_374 ?_
    refine aw_iload B dX12_looks_376 rfl ?_
    refine aw_isub B dX12_looks_378 ?_
    refine aw_goto B 388 dX12_looks_379 ?_
    refine aw_iadd B dX12_looks_388 ?_
    refine m_put B f_X12_121 dX12_looks_389 (ms_11 _ _ _) (by decide) ?_
    refine aw_aload_n B 0 rfl dX12_looks_392 rfl ?_
    refine aw_dup B rfl dX12_looks_393 ?_
    refine m_get B f_X12_124 dX12_looks_394 (mg_12 _ _) ?_
    refine aw_iload B dX12_looks_397 rfl ?_
    refine aw_if_eq B 419 dX12_looks_399 (fun c399 => absurd c399 (by decide)) (fun c399 => ?_)
    refine aw_iload B dX12_looks_402 rfl ?_
    refine aw_sipush B (-400) (by decide) dX12_looks_404 ?_
    refine aw_icmp_gt B 419 dX12_looks_407 (fun c407 => ?_) (fun c407 => absurd c4 c407)
    refine aw_iconst B 0 (by decide) dX12_looks_419 ?_
    refine aw_iadd B dX12_looks_420 ?_
    refine m_put B f_X12_124 dX12_looks_421 (ms_12 _ _ _) (by decide) ?_
    refine aw_iinc5 B 1 (by decide) dX12_looks_424 ?_
    refine aw_goto B 96 dX12_looks_427 ?_
    rw [show cl_s 12 n true = nI n from rfl, show cl_w 12 n true = 0 from rfl] at k
    rw [← es] at k
    refine AW.weak ?_ k
    exact ⟨Or.inr rfl, Or.inr rfl, Or.inr rfl, Or.inr rfl, Or.inr rfl, Or.inr rfl, Or.inl rfl, Or.inl rfl, Or.inl rfl, Or.inl rfl, trivial⟩
set_option maxRecDepth 100000 in
set_option maxHeartbeats 4000000 in
theorem looks_c13 {X : zX} {Ko : Option Value → Hp → Prop} {h : Hp} {m : Nat} {F : Nat → Int32} {A : Nat → Nat → Int32} {a1 a2 a3 i5 : Int32} (B : zB X cX12_looks 10 yX12_looks.cls yX12_looks.name none) {t : Int32} {n : Nat} {b : Bool} (e4 : A 4 0 = b2 b) (hn : n ≤ 99) (k : AW X 0 0 96 (LL m a1 a2 a3 (0) (i5 + 1)) [] (hM (zXg X) h m (upd (upd F 11 (F 11 + cl_s 13 n b)) 12 (F 12 + cl_w 13 n b)) (A)) Ko) : AW X 0 0 111 (LL m a1 a2 a3 (t) i5) [.int (cd 13 n)] (hM (zXg X) h m F A) Ko := by
  unfold LL
  obtain ⟨ei, es⟩ := cd13 n (by omega)
  rw [show cd 13 n = -200 - nI n from rfl]
  generalize hxx : -200 - nI n = x at ei es ⊢
  have t0 : (0 : Int32).toInt = 0 := by decide
  have t1 : (-1 : Int32).toInt = -1 := by decide
  have t10 : (-10 : Int32).toInt = -10 := by decide
  have t200 : (-200 : Int32).toInt = -200 := by decide
  have t400 : (-400 : Int32).toInt = -400 := by decide
  have c1 : x < 0 := by rw [Int32.lt_iff_toInt_lt, ei, t0]; omega
  have c2 : ¬ x = -1 := fun z => by rw [z, t1] at ei; omega
  have c3 : x ≤ -10 := by rw [Int32.le_iff_toInt_le, ei, t10]; omega
  have c4 : (-400 : Int32) < x := by rw [Int32.lt_iff_toInt_lt, ei, t400]; omega
  have c5 : x ≤ -200 := by rw [Int32.le_iff_toInt_le, ei, t200]; omega
  cases b
  · refine aw_istore6 B dX12_looks_111 ?_
    refine aw_iload B dX12_looks_113 rfl ?_
    refine aw_if_lt B 212 dX12_looks_115 (fun c115 => ?_) (fun c115 => absurd c1 c115)
    refine aw_iload B dX12_looks_212 rfl ?_
    refine aw_iconst B (-1) (by decide) dX12_looks_214 ?_
    refine aw_icmp_ne B 247 dX12_looks_215 (fun c215 => ?_) (fun c215 => absurd c215 c2)
    refine aw_iload B dX12_looks_247 rfl ?_
    refine aw_bipush B (-10) (by decide) dX12_looks_249 ?_
    refine aw_icmp_le B 333 dX12_looks_251 (fun c251 => ?_) (fun c251 => absurd c3 c251)
    refine aw_iconst B 0 (by decide) dX12_looks_333 ?_
    refine aw_istore4 B dX12_looks_334 ?_
    refine aw_aload_n B 0 rfl dX12_looks_336 rfl ?_
    refine m_get B f_X12_21 dX12_looks_337 (mg_10 _ _) ?_
    refine aw_iconst B 0 (by decide) dX12_looks_340 ?_
    refine m_zld B (0) (rfl) ((by decide)) dX12_looks_341 ?_
    rw [e4]
    refine aw_istore7 B dX12_looks_342 ?_
    refine aw_aload_n B 0 rfl dX12_looks_344 rfl ?_
    refine aw_dup B rfl dX12_looks_345 ?_
    refine m_get B f_X12_121 dX12_looks_346 (mg_11 _ _) ?_
    refine aw_iload B dX12_looks_349 rfl ?_
    refine aw_if_eq B 362 dX12_looks_351 (fun c351 => ?_) (fun c351 => absurd rfl c351)
    refine aw_iconst B 0 (by decide) dX12_looks_362 ?_
    refine aw_goto B 388 dX12_looks_363 ?_
    refine aw_iadd B dX12_looks_388 ?_
    refine m_put B f_X12_121 dX12_looks_389 (ms_11 _ _ _) (by decide) ?_
    refine aw_aload_n B 0 rfl dX12_looks_392 rfl ?_
    refine aw_dup B rfl dX12_looks_393 ?_
    refine m_get B f_X12_124 dX12_looks_394 (mg_12 _ _) ?_
    refine aw_iload B dX12_looks_397 rfl ?_
    refine aw_if_eq B 419 dX12_looks_399 (fun c399 => ?_) (fun c399 => absurd rfl c399)
    refine aw_iconst B 0 (by decide) dX12_looks_419 ?_
    refine aw_iadd B dX12_looks_420 ?_
    refine m_put B f_X12_124 dX12_looks_421 (ms_12 _ _ _) (by decide) ?_
    refine aw_iinc5 B 1 (by decide) dX12_looks_424 ?_
    refine aw_goto B 96 dX12_looks_427 ?_
    rw [show cl_s 13 n false = 0 from rfl, show cl_w 13 n false = 0 from rfl] at k
    refine AW.weak ?_ k
    exact ⟨Or.inr rfl, Or.inr rfl, Or.inr rfl, Or.inr rfl, Or.inr rfl, Or.inr rfl, Or.inl rfl, Or.inl rfl, Or.inl rfl, Or.inl rfl, trivial⟩
  · refine aw_istore6 B dX12_looks_111 ?_
    refine aw_iload B dX12_looks_113 rfl ?_
    refine aw_if_lt B 212 dX12_looks_115 (fun c115 => ?_) (fun c115 => absurd c1 c115)
    refine aw_iload B dX12_looks_212 rfl ?_
    refine aw_iconst B (-1) (by decide) dX12_looks_214 ?_
    refine aw_icmp_ne B 247 dX12_looks_215 (fun c215 => ?_) (fun c215 => absurd c215 c2)
    refine aw_iload B dX12_looks_247 rfl ?_
    refine aw_bipush B (-10) (by decide) dX12_looks_249 ?_
    refine aw_icmp_le B 333 dX12_looks_251 (fun c251 => ?_) (fun c251 => absurd c3 c251)
    refine aw_iconst B 0 (by decide) dX12_looks_333 ?_
    refine aw_istore4 B dX12_looks_334 ?_
    refine aw_aload_n B 0 rfl dX12_looks_336 rfl ?_
    refine m_get B f_X12_21 dX12_looks_337 (mg_10 _ _) ?_
    refine aw_iconst B 0 (by decide) dX12_looks_340 ?_
    refine m_zld B (0) (rfl) ((by decide)) dX12_looks_341 ?_
    rw [e4]
    refine aw_istore7 B dX12_looks_342 ?_
    refine aw_aload_n B 0 rfl dX12_looks_344 rfl ?_
    refine aw_dup B rfl dX12_looks_345 ?_
    refine m_get B f_X12_121 dX12_looks_346 (mg_11 _ _) ?_
    refine aw_iload B dX12_looks_349 rfl ?_
    refine aw_if_eq B 362 dX12_looks_351 (fun c351 => absurd c351 (by decide)) (fun c351 => ?_)
    refine aw_iload B dX12_looks_354 rfl ?_
    refine aw_sipush B (-400) (by decide) dX12_looks_356 ?_
    refine aw_icmp_gt B 366 dX12_looks_359 (fun c359 => ?_) (fun c359 => absurd c4 c359)
    refine aw_iload B dX12_looks_366 rfl ?_
    refine aw_sipush B (-200) (by decide) dX12_looks_368 ?_
    refine aw_icmp_le B 382 dX12_looks_371 (fun c371 => ?_) (fun c371 => absurd c5 c371)
    refine aw_iload B dX12_looks_382 rfl ?_
    refine aw_sipush B (-200) (by decide) dX12_looks_384 ?_
    refine aw_isub B dX12_looks_387 ?_
    refine aw_iadd B dX12_looks_388 ?_
    refine m_put B f_X12_121 dX12_looks_389 (ms_11 _ _ _) (by decide) ?_
    refine aw_aload_n B 0 rfl dX12_looks_392 rfl ?_
    refine aw_dup B rfl dX12_looks_393 ?_
    refine m_get B f_X12_124 dX12_looks_394 (mg_12 _ _) ?_
    refine aw_iload B dX12_looks_397 rfl ?_
    refine aw_if_eq B 419 dX12_looks_399 (fun c399 => absurd c399 (by decide)) (fun c399 => ?_)
    refine aw_iload B dX12_looks_402 rfl ?_
    refine aw_sipush B (-400) (by decide) dX12_looks_404 ?_
    refine aw_icmp_gt B 419 dX12_looks_407 (fun c407 => ?_) (fun c407 => absurd c4 c407)
    refine aw_iconst B 0 (by decide) dX12_looks_419 ?_
    refine aw_iadd B dX12_looks_420 ?_
    refine m_put B f_X12_124 dX12_looks_421 (ms_12 _ _ _) (by decide) ?_
    refine aw_iinc5 B 1 (by decide) dX12_looks_424 ?_
    refine aw_goto B 96 dX12_looks_427 ?_
    rw [show cl_s 13 n true = -nI n from rfl, show cl_w 13 n true = 0 from rfl] at k
    rw [← es] at k
    refine AW.weak ?_ k
    exact ⟨Or.inr rfl, Or.inr rfl, Or.inr rfl, Or.inr rfl, Or.inr rfl, Or.inr rfl, Or.inl rfl, Or.inl rfl, Or.inl rfl, Or.inl rfl, trivial⟩
set_option maxRecDepth 100000 in
set_option maxHeartbeats 4000000 in
theorem looks_c14 {X : zX} {Ko : Option Value → Hp → Prop} {h : Hp} {m : Nat} {F : Nat → Int32} {A : Nat → Nat → Int32} {a1 a2 a3 i5 : Int32} (B : zB X cX12_looks 10 yX12_looks.cls yX12_looks.name none) {t : Int32} {n : Nat} {b : Bool} (e4 : A 4 0 = b2 b) (hn : n ≤ 99) (k : AW X 0 0 96 (LL m a1 a2 a3 (0) (i5 + 1)) [] (hM (zXg X) h m (upd (upd F 11 (F 11 + cl_s 14 n b)) 12 (F 12 + cl_w 14 n b)) (A)) Ko) : AW X 0 0 111 (LL m a1 a2 a3 (t) i5) [.int (cd 14 n)] (hM (zXg X) h m F A) Ko := by
  unfold LL
  obtain ⟨ei, es⟩ := cd14 n (by omega)
  rw [show cd 14 n = -400 - nI n from rfl]
  generalize hxx : -400 - nI n = x at ei es ⊢
  have t0 : (0 : Int32).toInt = 0 := by decide
  have t1 : (-1 : Int32).toInt = -1 := by decide
  have t10 : (-10 : Int32).toInt = -10 := by decide
  have t200 : (-200 : Int32).toInt = -200 := by decide
  have t400 : (-400 : Int32).toInt = -400 := by decide
  have c1 : x < 0 := by rw [Int32.lt_iff_toInt_lt, ei, t0]; omega
  have c2 : ¬ x = -1 := fun z => by rw [z, t1] at ei; omega
  have c3 : x ≤ -10 := by rw [Int32.le_iff_toInt_le, ei, t10]; omega
  have c4 : ¬ -400 < x := by rw [Int32.lt_iff_toInt_lt, ei, t400]; omega
  have c5 : x ≤ -200 := by rw [Int32.le_iff_toInt_le, ei, t200]; omega
  cases b
  · refine aw_istore6 B dX12_looks_111 ?_
    refine aw_iload B dX12_looks_113 rfl ?_
    refine aw_if_lt B 212 dX12_looks_115 (fun c115 => ?_) (fun c115 => absurd c1 c115)
    refine aw_iload B dX12_looks_212 rfl ?_
    refine aw_iconst B (-1) (by decide) dX12_looks_214 ?_
    refine aw_icmp_ne B 247 dX12_looks_215 (fun c215 => ?_) (fun c215 => absurd c215 c2)
    refine aw_iload B dX12_looks_247 rfl ?_
    refine aw_bipush B (-10) (by decide) dX12_looks_249 ?_
    refine aw_icmp_le B 333 dX12_looks_251 (fun c251 => ?_) (fun c251 => absurd c3 c251)
    refine aw_iconst B 0 (by decide) dX12_looks_333 ?_
    refine aw_istore4 B dX12_looks_334 ?_
    refine aw_aload_n B 0 rfl dX12_looks_336 rfl ?_
    refine m_get B f_X12_21 dX12_looks_337 (mg_10 _ _) ?_
    refine aw_iconst B 0 (by decide) dX12_looks_340 ?_
    refine m_zld B (0) (rfl) ((by decide)) dX12_looks_341 ?_
    rw [e4]
    refine aw_istore7 B dX12_looks_342 ?_
    refine aw_aload_n B 0 rfl dX12_looks_344 rfl ?_
    refine aw_dup B rfl dX12_looks_345 ?_
    refine m_get B f_X12_121 dX12_looks_346 (mg_11 _ _) ?_
    refine aw_iload B dX12_looks_349 rfl ?_
    refine aw_if_eq B 362 dX12_looks_351 (fun c351 => ?_) (fun c351 => absurd rfl c351)
    refine aw_iconst B 0 (by decide) dX12_looks_362 ?_
    refine aw_goto B 388 dX12_looks_363 ?_
    refine aw_iadd B dX12_looks_388 ?_
    refine m_put B f_X12_121 dX12_looks_389 (ms_11 _ _ _) (by decide) ?_
    refine aw_aload_n B 0 rfl dX12_looks_392 rfl ?_
    refine aw_dup B rfl dX12_looks_393 ?_
    refine m_get B f_X12_124 dX12_looks_394 (mg_12 _ _) ?_
    refine aw_iload B dX12_looks_397 rfl ?_
    refine aw_if_eq B 419 dX12_looks_399 (fun c399 => ?_) (fun c399 => absurd rfl c399)
    refine aw_iconst B 0 (by decide) dX12_looks_419 ?_
    refine aw_iadd B dX12_looks_420 ?_
    refine m_put B f_X12_124 dX12_looks_421 (ms_12 _ _ _) (by decide) ?_
    refine aw_iinc5 B 1 (by decide) dX12_looks_424 ?_
    refine aw_goto B 96 dX12_looks_427 ?_
    rw [show cl_s 14 n false = 0 from rfl, show cl_w 14 n false = 0 from rfl] at k
    refine AW.weak ?_ k
    exact ⟨Or.inr rfl, Or.inr rfl, Or.inr rfl, Or.inr rfl, Or.inr rfl, Or.inr rfl, Or.inl rfl, Or.inl rfl, Or.inl rfl, Or.inl rfl, trivial⟩
  · refine aw_istore6 B dX12_looks_111 ?_
    refine aw_iload B dX12_looks_113 rfl ?_
    refine aw_if_lt B 212 dX12_looks_115 (fun c115 => ?_) (fun c115 => absurd c1 c115)
    refine aw_iload B dX12_looks_212 rfl ?_
    refine aw_iconst B (-1) (by decide) dX12_looks_214 ?_
    refine aw_icmp_ne B 247 dX12_looks_215 (fun c215 => ?_) (fun c215 => absurd c215 c2)
    refine aw_iload B dX12_looks_247 rfl ?_
    refine aw_bipush B (-10) (by decide) dX12_looks_249 ?_
    refine aw_icmp_le B 333 dX12_looks_251 (fun c251 => ?_) (fun c251 => absurd c3 c251)
    refine aw_iconst B 0 (by decide) dX12_looks_333 ?_
    refine aw_istore4 B dX12_looks_334 ?_
    refine aw_aload_n B 0 rfl dX12_looks_336 rfl ?_
    refine m_get B f_X12_21 dX12_looks_337 (mg_10 _ _) ?_
    refine aw_iconst B 0 (by decide) dX12_looks_340 ?_
    refine m_zld B (0) (rfl) ((by decide)) dX12_looks_341 ?_
    rw [e4]
    refine aw_istore7 B dX12_looks_342 ?_
    refine aw_aload_n B 0 rfl dX12_looks_344 rfl ?_
    refine aw_dup B rfl dX12_looks_345 ?_
    refine m_get B f_X12_121 dX12_looks_346 (mg_11 _ _) ?_
    refine aw_iload B dX12_looks_349 rfl ?_
    refine aw_if_eq B 362 dX12_looks_351 (fun c351 => absurd c351 (by decide)) (fun c351 => ?_)
    refine aw_iload B dX12_looks_354 rfl ?_
    refine aw_sipush B (-400) (by decide) dX12_looks_356 ?_
    refine aw_icmp_gt B 366 dX12_looks_359 (fun c359 => absurd c359 c4) (fun c359 => ?_)
    refine aw_iconst B 0 (by decide) dX12_looks_362 ?_
    refine aw_goto B 388 dX12_looks_363 ?_
    refine aw_iadd B dX12_looks_388 ?_
    refine m_put B f_X12_121 dX12_looks_389 (ms_11 _ _ _) (by decide) ?_
    refine aw_aload_n B 0 rfl dX12_looks_392 rfl ?_
    refine aw_dup B rfl dX12_looks_393 ?_
    refine m_get B f_X12_124 dX12_looks_394 (mg_12 _ _) ?_
    refine aw_iload B dX12_looks_397 rfl ?_
    refine aw_if_eq B 419 dX12_looks_399 (fun c399 => absurd c399 (by decide)) (fun c399 => ?_)
    refine aw_iload B dX12_looks_402 rfl ?_
    refine aw_sipush B (-400) (by decide) dX12_looks_404 ?_
    refine aw_icmp_gt B 419 dX12_looks_407 (fun c407 => absurd c407 c4) (fun c407 => ?_)
    refine aw_sipush B (-400) (by decide) dX12_looks_410 ?_
    refine aw_iload B dX12_looks_413 rfl ?_
    refine aw_isub B dX12_looks_415 ?_
    refine aw_goto B 420 dX12_looks_416 ?_
    refine aw_iadd B dX12_looks_420 ?_
    refine m_put B f_X12_124 dX12_looks_421 (ms_12 _ _ _) (by decide) ?_
    refine aw_iinc5 B 1 (by decide) dX12_looks_424 ?_
    refine aw_goto B 96 dX12_looks_427 ?_
    rw [show cl_s 14 n true = 0 from rfl, show cl_w 14 n true = nI n from rfl] at k
    rw [← es] at k
    refine AW.weak ?_ k
    exact ⟨Or.inr rfl, Or.inr rfl, Or.inr rfl, Or.inr rfl, Or.inr rfl, Or.inr rfl, Or.inl rfl, Or.inl rfl, Or.inl rfl, Or.inl rfl, trivial⟩
