/-! proofs of methods -/
theorem dX0_init_0 : decode cX0_init 0 = .ok (.aload_n 0, 1) := by decide +kernel
theorem dX0_init_1 : decode cX0_init 1 = .ok (.invokespecial 3, 3) := by decide +kernel
theorem dX0_init_4 : decode cX0_init 4 = .ok (.aload_n 0, 1) := by decide +kernel
theorem dX0_init_5 : decode cX0_init 5 = .ok (.bipush 16, 2) := by decide +kernel
theorem dX0_init_7 : decode cX0_init 7 = .ok (.newarray .int, 2) := by decide +kernel
theorem dX0_init_9 : decode cX0_init 9 = .ok (.putfield 9, 3) := by decide +kernel
theorem dX0_init_12 : decode cX0_init 12 = .ok (.aload_n 0, 1) := by decide +kernel
theorem dX0_init_13 : decode cX0_init 13 = .ok (.bipush 16, 2) := by decide +kernel
theorem dX0_init_15 : decode cX0_init 15 = .ok (.newarray .int, 2) := by decide +kernel
theorem dX0_init_17 : decode cX0_init 17 = .ok (.putfield 15, 3) := by decide +kernel
theorem dX0_init_20 : decode cX0_init 20 = .ok (.aload_n 0, 1) := by decide +kernel
theorem dX0_init_21 : decode cX0_init 21 = .ok (.bipush 16, 2) := by decide +kernel
theorem dX0_init_23 : decode cX0_init 23 = .ok (.newarray .int, 2) := by decide +kernel
theorem dX0_init_25 : decode cX0_init 25 = .ok (.putfield 18, 3) := by decide +kernel
theorem dX0_init_28 : decode cX0_init 28 = .ok (.aload_n 0, 1) := by decide +kernel
theorem dX0_init_29 : decode cX0_init 29 = .ok (.bipush 80, 2) := by decide +kernel
theorem dX0_init_31 : decode cX0_init 31 = .ok (.newarray .int, 2) := by decide +kernel
theorem dX0_init_33 : decode cX0_init 33 = .ok (.putfield 21, 3) := by decide +kernel
theorem dX0_init_36 : decode cX0_init 36 = .ok (.aload_n 0, 1) := by decide +kernel
theorem dX0_init_37 : decode cX0_init 37 = .ok (.bipush 80, 2) := by decide +kernel
theorem dX0_init_39 : decode cX0_init 39 = .ok (.newarray .int, 2) := by decide +kernel
theorem dX0_init_41 : decode cX0_init 41 = .ok (.putfield 24, 3) := by decide +kernel
theorem dX0_init_44 : decode cX0_init 44 = .ok (.aload_n 0, 1) := by decide +kernel
theorem dX0_init_45 : decode cX0_init 45 = .ok (.bipush 80, 2) := by decide +kernel
theorem dX0_init_47 : decode cX0_init 47 = .ok (.newarray .int, 2) := by decide +kernel
theorem dX0_init_49 : decode cX0_init 49 = .ok (.putfield 27, 3) := by decide +kernel
theorem dX0_init_52 : decode cX0_init 52 = .ok (.return_, 1) := by decide +kernel
abbrev M_X0_init : aM := (yX0_init.cls, cX0_init, 1, none, [], yX0_init.name == "<init>")
abbrev J_X0_init (l : Launch) (E : aE) (n0 m0 : Nat) := GG (fun (_ : Unit) => .inl none) l E M_X0_init 1 30 n0 m0
theorem b_X0_init {l : Launch} {E : aE} (hl : l.stackTraces = false) (n0 m0 : Nat) (x1 : Nat) (h0 : aH) : J_X0_init l E n0 m0 0 [(0, .ref (e_z E + x1))] [] h0 (m_X0_init x1 h0) := by
  unfold m_X0_init
  refine g_aload_n (pc := 0) dX0_init_0 0 rfl ?_
  refine g_objInit (pc := 1) tw312 tw35 tw36 (Nat.le_of_ble_eq_true rfl) (Nat.le_of_ble_eq_true rfl) dX0_init_1 ?_
  refine g_aload_n (pc := 4) dX0_init_4 0 rfl ?_
  refine g_bipush (pc := 5) dX0_init_5 cb_16 ?_
  refine g_newa (pc := 7) (t := 0) (n := 16) (x := (16 : Int32)) at_0 tw134 (by decide +kernel) (Nat.le_of_ble_eq_true rfl) dX0_init_7 (fun x2 h1 => ?_)
  refine g_putr (pc := 9) cl0 (Nat.le_of_ble_eq_true rfl) (Or.inr ⟨rfl, rfl, by decide +kernel, tw316⟩) (fun _ _ _ => rfl) (fun _ => ⟨rfl, rfl⟩) dX0_init_9 (fun h2 => ?_)
  refine g_aload_n (pc := 12) dX0_init_12 0 rfl ?_
  refine g_bipush (pc := 13) dX0_init_13 cb_16 ?_
  refine g_newa (pc := 15) (t := 0) (n := 16) (x := (16 : Int32)) at_0 tw134 (by decide +kernel) (Nat.le_of_ble_eq_true rfl) dX0_init_15 (fun x3 h3 => ?_)
  refine g_putr (pc := 17) cl0 (Nat.le_of_ble_eq_true rfl) (Or.inr ⟨rfl, rfl, by decide +kernel, tw320⟩) (fun _ _ _ => rfl) (fun _ => ⟨rfl, rfl⟩) dX0_init_17 (fun h4 => ?_)
  refine g_aload_n (pc := 20) dX0_init_20 0 rfl ?_
  refine g_bipush (pc := 21) dX0_init_21 cb_16 ?_
  refine g_newa (pc := 23) (t := 0) (n := 16) (x := (16 : Int32)) at_0 tw134 (by decide +kernel) (Nat.le_of_ble_eq_true rfl) dX0_init_23 (fun x4 h5 => ?_)
  refine g_putr (pc := 25) cl0 (Nat.le_of_ble_eq_true rfl) (Or.inr ⟨rfl, rfl, by decide +kernel, tw322⟩) (fun _ _ _ => rfl) (fun _ => ⟨rfl, rfl⟩) dX0_init_25 (fun h6 => ?_)
  refine g_aload_n (pc := 28) dX0_init_28 0 rfl ?_
  refine g_bipush (pc := 29) dX0_init_29 cb_80 ?_
  refine g_newa (pc := 31) (t := 0) (n := 80) (x := (80 : Int32)) at_0 tw134 (by decide +kernel) (Nat.le_of_ble_eq_true rfl) dX0_init_31 (fun x5 h7 => ?_)
  refine g_putr (pc := 33) cl0 (Nat.le_of_ble_eq_true rfl) (Or.inr ⟨rfl, rfl, by decide +kernel, tw324⟩) (fun _ _ _ => rfl) (fun _ => ⟨rfl, rfl⟩) dX0_init_33 (fun h8 => ?_)
  refine g_aload_n (pc := 36) dX0_init_36 0 rfl ?_
  refine g_bipush (pc := 37) dX0_init_37 cb_80 ?_
  refine g_newa (pc := 39) (t := 0) (n := 80) (x := (80 : Int32)) at_0 tw134 (by decide +kernel) (Nat.le_of_ble_eq_true rfl) dX0_init_39 (fun x6 h9 => ?_)
  refine g_putr (pc := 41) cl0 (Nat.le_of_ble_eq_true rfl) (Or.inr ⟨rfl, rfl, by decide +kernel, tw326⟩) (fun _ _ _ => rfl) (fun _ => ⟨rfl, rfl⟩) dX0_init_41 (fun h10 => ?_)
  refine g_aload_n (pc := 44) dX0_init_44 0 rfl ?_
  refine g_bipush (pc := 45) dX0_init_45 cb_80 ?_
  refine g_newa (pc := 47) (t := 0) (n := 80) (x := (80 : Int32)) at_0 tw134 (by decide +kernel) (Nat.le_of_ble_eq_true rfl) dX0_init_47 (fun x7 h11 => ?_)
  refine g_putr (pc := 49) cl0 (Nat.le_of_ble_eq_true rfl) (Or.inr ⟨rfl, rfl, by decide +kernel, tw328⟩) (fun _ _ _ => rfl) (fun _ => ⟨rfl, rfl⟩) dX0_init_49 (fun h12 => ?_)
  exact g_ret (pc := 52) rfl isRet_v dX0_init_52 rfl
theorem p_X0_init {l : Launch} {E : aE} (hl : l.stackTraces = false) (x1 : Nat) (h0 : aH) : MO (fun (_ : Unit) => .inl none) l E yX0_init (.code yX0_init cX0_init 1 none) 1 30 [.ref (e_z E + x1)] h0 (m_X0_init x1 h0) := g_met hl (by decide +kernel) (Nat.le_of_ble_eq_true rfl) (b_X0_init hl _ _ x1 h0)
theorem dX11_copyAll_0 : decode cX11_copyAll 0 = .ok (.aload_n 0, 1) := by decide +kernel
theorem dX11_copyAll_1 : decode cX11_copyAll 1 = .ok (.iconst 0, 1) := by decide +kernel
theorem dX11_copyAll_2 : decode cX11_copyAll 2 = .ok (.aload_n 1, 1) := by decide +kernel
theorem dX11_copyAll_3 : decode cX11_copyAll 3 = .ok (.iconst 0, 1) := by decide +kernel
theorem dX11_copyAll_4 : decode cX11_copyAll 4 = .ok (.aload_n 0, 1) := by decide +kernel
theorem dX11_copyAll_5 : decode cX11_copyAll 5 = .ok (.arraylength, 1) := by decide +kernel
theorem dX11_copyAll_6 : decode cX11_copyAll 6 = .ok (.aload_n 1, 1) := by decide +kernel
theorem dX11_copyAll_7 : decode cX11_copyAll 7 = .ok (.arraylength, 1) := by decide +kernel
theorem dX11_copyAll_8 : decode cX11_copyAll 8 = .ok (.invokestatic 451, 3) := by decide +kernel
theorem dX11_copyAll_11 : decode cX11_copyAll 11 = .ok (.invokestatic 456, 3) := by decide +kernel
theorem dX11_copyAll_14 : decode cX11_copyAll 14 = .ok (.return_, 1) := by decide +kernel
abbrev M_X11_copyAll : aM := (yX11_copyAll.cls, cX11_copyAll, 2, none, [], yX11_copyAll.name == "<init>")
abbrev J_X11_copyAll (l : Launch) (E : aE) (n0 m0 : Nat) := GG (fun (_ : Unit) => .inl none) l E M_X11_copyAll 1 30 n0 m0
theorem b_X11_copyAll {l : Launch} {E : aE} (hl : l.stackTraces = false) (n0 m0 : Nat) (x1 : Nat) (x2 : Nat) (h0 : aH) : J_X11_copyAll l E n0 m0 0 [(0, .ref (e_z E + x1)), (1, .ref (e_z E + x2))] [] h0 (m_X11_copyAll x1 x2 h0) := by
  unfold m_X11_copyAll
  refine g_aload_n (pc := 0) dX11_copyAll_0 0 rfl ?_
  refine g_iconst (pc := 1) dX11_copyAll_1 ci_0 ?_
  refine g_aload_n (pc := 2) dX11_copyAll_2 1 rfl ?_
  refine g_iconst (pc := 3) dX11_copyAll_3 ci_0 ?_
  refine g_aload_n (pc := 4) dX11_copyAll_4 0 rfl ?_
  refine g_alen (pc := 5) dX11_copyAll_5 (fun x3 => ?_)
  refine g_aload_n (pc := 6) dX11_copyAll_6 1 rfl ?_
  refine g_alen (pc := 7) dX11_copyAll_7 (fun x4 => ?_)
  refine g_mmin (pc := 8) tw1308 tw651 tw19 tw652 (Nat.le_of_ble_eq_true rfl) (Nat.le_of_ble_eq_true rfl) dX11_copyAll_8 ?_
  refine g_acp (pc := 11) tw1309 tw856 tw855 tw26 (Nat.le_of_ble_eq_true rfl) (Nat.le_of_ble_eq_true rfl) dX11_copyAll_11 (fun h1 => ?_)
  exact g_ret (pc := 14) rfl isRet_v dX11_copyAll_14 rfl
theorem p_X11_copyAll {l : Launch} {E : aE} (hl : l.stackTraces = false) (x1 : Nat) (x2 : Nat) (h0 : aH) : MO (fun (_ : Unit) => .inl none) l E yX11_copyAll (.code yX11_copyAll cX11_copyAll 2 none) 1 30 [.ref (e_z E + x1), .ref (e_z E + x2)] h0 (m_X11_copyAll x1 x2 h0) := g_met hl (by decide +kernel) (Nat.le_of_ble_eq_true rfl) (b_X11_copyAll hl _ _ x1 x2 h0)
theorem dX0_copyFrom_0 : decode cX0_copyFrom 0 = .ok (.aload_n 0, 1) := by decide +kernel
theorem dX0_copyFrom_1 : decode cX0_copyFrom 1 = .ok (.aload_n 1, 1) := by decide +kernel
theorem dX0_copyFrom_2 : decode cX0_copyFrom 2 = .ok (.getfield 30, 3) := by decide +kernel
theorem dX0_copyFrom_5 : decode cX0_copyFrom 5 = .ok (.putfield 30, 3) := by decide +kernel
theorem dX0_copyFrom_8 : decode cX0_copyFrom 8 = .ok (.aload_n 1, 1) := by decide +kernel
theorem dX0_copyFrom_9 : decode cX0_copyFrom 9 = .ok (.getfield 9, 3) := by decide +kernel
theorem dX0_copyFrom_12 : decode cX0_copyFrom 12 = .ok (.aload_n 0, 1) := by decide +kernel
theorem dX0_copyFrom_13 : decode cX0_copyFrom 13 = .ok (.getfield 9, 3) := by decide +kernel
theorem dX0_copyFrom_16 : decode cX0_copyFrom 16 = .ok (.invokestatic 34, 3) := by decide +kernel
theorem dX0_copyFrom_19 : decode cX0_copyFrom 19 = .ok (.aload_n 0, 1) := by decide +kernel
theorem dX0_copyFrom_20 : decode cX0_copyFrom 20 = .ok (.aload_n 1, 1) := by decide +kernel
theorem dX0_copyFrom_21 : decode cX0_copyFrom 21 = .ok (.getfield 38, 3) := by decide +kernel
theorem dX0_copyFrom_24 : decode cX0_copyFrom 24 = .ok (.putfield 38, 3) := by decide +kernel
theorem dX0_copyFrom_27 : decode cX0_copyFrom 27 = .ok (.aload_n 1, 1) := by decide +kernel
theorem dX0_copyFrom_28 : decode cX0_copyFrom 28 = .ok (.getfield 15, 3) := by decide +kernel
theorem dX0_copyFrom_31 : decode cX0_copyFrom 31 = .ok (.aload_n 0, 1) := by decide +kernel
theorem dX0_copyFrom_32 : decode cX0_copyFrom 32 = .ok (.getfield 15, 3) := by decide +kernel
theorem dX0_copyFrom_35 : decode cX0_copyFrom 35 = .ok (.invokestatic 34, 3) := by decide +kernel
theorem dX0_copyFrom_38 : decode cX0_copyFrom 38 = .ok (.aload_n 1, 1) := by decide +kernel
theorem dX0_copyFrom_39 : decode cX0_copyFrom 39 = .ok (.getfield 18, 3) := by decide +kernel
theorem dX0_copyFrom_42 : decode cX0_copyFrom 42 = .ok (.aload_n 0, 1) := by decide +kernel
theorem dX0_copyFrom_43 : decode cX0_copyFrom 43 = .ok (.getfield 18, 3) := by decide +kernel
theorem dX0_copyFrom_46 : decode cX0_copyFrom 46 = .ok (.invokestatic 34, 3) := by decide +kernel
theorem dX0_copyFrom_49 : decode cX0_copyFrom 49 = .ok (.aload_n 1, 1) := by decide +kernel
theorem dX0_copyFrom_50 : decode cX0_copyFrom 50 = .ok (.getfield 21, 3) := by decide +kernel
theorem dX0_copyFrom_53 : decode cX0_copyFrom 53 = .ok (.aload_n 0, 1) := by decide +kernel
theorem dX0_copyFrom_54 : decode cX0_copyFrom 54 = .ok (.getfield 21, 3) := by decide +kernel
theorem dX0_copyFrom_57 : decode cX0_copyFrom 57 = .ok (.invokestatic 34, 3) := by decide +kernel
theorem dX0_copyFrom_60 : decode cX0_copyFrom 60 = .ok (.aload_n 1, 1) := by decide +kernel
theorem dX0_copyFrom_61 : decode cX0_copyFrom 61 = .ok (.getfield 24, 3) := by decide +kernel
theorem dX0_copyFrom_64 : decode cX0_copyFrom 64 = .ok (.aload_n 0, 1) := by decide +kernel
theorem dX0_copyFrom_65 : decode cX0_copyFrom 65 = .ok (.getfield 24, 3) := by decide +kernel
theorem dX0_copyFrom_68 : decode cX0_copyFrom 68 = .ok (.invokestatic 34, 3) := by decide +kernel
theorem dX0_copyFrom_71 : decode cX0_copyFrom 71 = .ok (.aload_n 1, 1) := by decide +kernel
theorem dX0_copyFrom_72 : decode cX0_copyFrom 72 = .ok (.getfield 27, 3) := by decide +kernel
theorem dX0_copyFrom_75 : decode cX0_copyFrom 75 = .ok (.aload_n 0, 1) := by decide +kernel
theorem dX0_copyFrom_76 : decode cX0_copyFrom 76 = .ok (.getfield 27, 3) := by decide +kernel
theorem dX0_copyFrom_79 : decode cX0_copyFrom 79 = .ok (.invokestatic 34, 3) := by decide +kernel
theorem dX0_copyFrom_82 : decode cX0_copyFrom 82 = .ok (.return_, 1) := by decide +kernel
abbrev M_X0_copyFrom : aM := (yX0_copyFrom.cls, cX0_copyFrom, 2, none, [], yX0_copyFrom.name == "<init>")
abbrev J_X0_copyFrom (l : Launch) (E : aE) (n0 m0 : Nat) := GG (fun (_ : Unit) => .inl none) l E M_X0_copyFrom 2 51 n0 m0
theorem b_X0_copyFrom {l : Launch} {E : aE} (hl : l.stackTraces = false) (n0 m0 : Nat) (x1 : Nat) (x2 : Nat) (h0 : aH) : J_X0_copyFrom l E n0 m0 0 [(0, .ref (e_z E + x1)), (1, .ref (e_z E + x2))] [] h0 (m_X0_copyFrom x1 x2 h0) := by
  unfold m_X0_copyFrom
  refine g_aload_n (pc := 0) dX0_copyFrom_0 0 rfl ?_
  refine g_aload_n (pc := 1) dX0_copyFrom_1 1 rfl ?_
  refine g_geti (pc := 2) cl0 (Nat.le_of_ble_eq_true rfl) fk313 (fun _ _ _ => rfl) dX0_copyFrom_2 (fun x3 => ?_)
  refine g_puti (pc := 5) cl0 (Nat.le_of_ble_eq_true rfl) (Or.inl ⟨rfl, fk313⟩) (fun _ _ _ => rfl) (fun _ => ⟨rfl, rfl⟩) dX0_copyFrom_5 (fun h1 => ?_)
  refine g_aload_n (pc := 8) dX0_copyFrom_8 1 rfl ?_
  refine g_getr (pc := 9) cl0 (Nat.le_of_ble_eq_true rfl) fk316 (fun _ _ _ => rfl) dX0_copyFrom_9 (fun x4 => ?_)
  refine g_aload_n (pc := 12) dX0_copyFrom_12 0 rfl ?_
  refine g_getr (pc := 13) cl0 (Nat.le_of_ble_eq_true rfl) fk316 (fun _ _ _ => rfl) dX0_copyFrom_13 (fun x5 => ?_)
  refine g_bRv (pc := 16) (c_SN (p_X11_copyAll hl x4 x5 h1) y_X11_copyAll tw1361 dX0_copyFrom_16 rfl (st := []) rfl (Nat.le_of_ble_eq_true rfl) (Nat.le_of_ble_eq_true rfl) (Nat.le_of_ble_eq_true rfl)) (fun _ h2 => ?_)
  refine g_aload_n (pc := 19) dX0_copyFrom_19 0 rfl ?_
  refine g_aload_n (pc := 20) dX0_copyFrom_20 1 rfl ?_
  refine g_geti (pc := 21) cl0 (Nat.le_of_ble_eq_true rfl) fk318 (fun _ _ _ => rfl) dX0_copyFrom_21 (fun x6 => ?_)
  refine g_puti (pc := 24) cl0 (Nat.le_of_ble_eq_true rfl) (Or.inl ⟨rfl, fk318⟩) (fun _ _ _ => rfl) (fun _ => ⟨rfl, rfl⟩) dX0_copyFrom_24 (fun h3 => ?_)
  refine g_aload_n (pc := 27) dX0_copyFrom_27 1 rfl ?_
  refine g_getr (pc := 28) cl0 (Nat.le_of_ble_eq_true rfl) fk320 (fun _ _ _ => rfl) dX0_copyFrom_28 (fun x7 => ?_)
  refine g_aload_n (pc := 31) dX0_copyFrom_31 0 rfl ?_
  refine g_getr (pc := 32) cl0 (Nat.le_of_ble_eq_true rfl) fk320 (fun _ _ _ => rfl) dX0_copyFrom_32 (fun x8 => ?_)
  refine g_bRv (pc := 35) (c_SN (p_X11_copyAll hl x7 x8 h3) y_X11_copyAll tw1361 dX0_copyFrom_35 rfl (st := []) rfl (Nat.le_of_ble_eq_true rfl) (Nat.le_of_ble_eq_true rfl) (Nat.le_of_ble_eq_true rfl)) (fun _ h4 => ?_)
  refine g_aload_n (pc := 38) dX0_copyFrom_38 1 rfl ?_
  refine g_getr (pc := 39) cl0 (Nat.le_of_ble_eq_true rfl) fk322 (fun _ _ _ => rfl) dX0_copyFrom_39 (fun x9 => ?_)
  refine g_aload_n (pc := 42) dX0_copyFrom_42 0 rfl ?_
  refine g_getr (pc := 43) cl0 (Nat.le_of_ble_eq_true rfl) fk322 (fun _ _ _ => rfl) dX0_copyFrom_43 (fun x10 => ?_)
  refine g_bRv (pc := 46) (c_SN (p_X11_copyAll hl x9 x10 h4) y_X11_copyAll tw1361 dX0_copyFrom_46 rfl (st := []) rfl (Nat.le_of_ble_eq_true rfl) (Nat.le_of_ble_eq_true rfl) (Nat.le_of_ble_eq_true rfl)) (fun _ h5 => ?_)
  refine g_aload_n (pc := 49) dX0_copyFrom_49 1 rfl ?_
  refine g_getr (pc := 50) cl0 (Nat.le_of_ble_eq_true rfl) fk324 (fun _ _ _ => rfl) dX0_copyFrom_50 (fun x11 => ?_)
  refine g_aload_n (pc := 53) dX0_copyFrom_53 0 rfl ?_
  refine g_getr (pc := 54) cl0 (Nat.le_of_ble_eq_true rfl) fk324 (fun _ _ _ => rfl) dX0_copyFrom_54 (fun x12 => ?_)
  refine g_bRv (pc := 57) (c_SN (p_X11_copyAll hl x11 x12 h5) y_X11_copyAll tw1361 dX0_copyFrom_57 rfl (st := []) rfl (Nat.le_of_ble_eq_true rfl) (Nat.le_of_ble_eq_true rfl) (Nat.le_of_ble_eq_true rfl)) (fun _ h6 => ?_)
  refine g_aload_n (pc := 60) dX0_copyFrom_60 1 rfl ?_
  refine g_getr (pc := 61) cl0 (Nat.le_of_ble_eq_true rfl) fk326 (fun _ _ _ => rfl) dX0_copyFrom_61 (fun x13 => ?_)
  refine g_aload_n (pc := 64) dX0_copyFrom_64 0 rfl ?_
  refine g_getr (pc := 65) cl0 (Nat.le_of_ble_eq_true rfl) fk326 (fun _ _ _ => rfl) dX0_copyFrom_65 (fun x14 => ?_)
  refine g_bRv (pc := 68) (c_SN (p_X11_copyAll hl x13 x14 h6) y_X11_copyAll tw1361 dX0_copyFrom_68 rfl (st := []) rfl (Nat.le_of_ble_eq_true rfl) (Nat.le_of_ble_eq_true rfl) (Nat.le_of_ble_eq_true rfl)) (fun _ h7 => ?_)
  refine g_aload_n (pc := 71) dX0_copyFrom_71 1 rfl ?_
  refine g_getr (pc := 72) cl0 (Nat.le_of_ble_eq_true rfl) fk328 (fun _ _ _ => rfl) dX0_copyFrom_72 (fun x15 => ?_)
  refine g_aload_n (pc := 75) dX0_copyFrom_75 0 rfl ?_
  refine g_getr (pc := 76) cl0 (Nat.le_of_ble_eq_true rfl) fk328 (fun _ _ _ => rfl) dX0_copyFrom_76 (fun x16 => ?_)
  refine g_bRv (pc := 79) (c_SN (p_X11_copyAll hl x15 x16 h7) y_X11_copyAll tw1361 dX0_copyFrom_79 rfl (st := []) rfl (Nat.le_of_ble_eq_true rfl) (Nat.le_of_ble_eq_true rfl) (Nat.le_of_ble_eq_true rfl)) (fun _ h8 => ?_)
  exact g_ret (pc := 82) rfl isRet_v dX0_copyFrom_82 rfl
theorem p_X0_copyFrom {l : Launch} {E : aE} (hl : l.stackTraces = false) (x1 : Nat) (x2 : Nat) (h0 : aH) : MO (fun (_ : Unit) => .inl none) l E yX0_copyFrom (.code yX0_copyFrom cX0_copyFrom 2 none) 2 51 [.ref (e_z E + x1), .ref (e_z E + x2)] h0 (m_X0_copyFrom x1 x2 h0) := g_met hl (by decide +kernel) (Nat.le_of_ble_eq_true rfl) (b_X0_copyFrom hl _ _ x1 x2 h0)
theorem dX0_open_0 : decode cX0_open 0 = .ok (.aload_n 0, 1) := by decide +kernel
theorem dX0_open_1 : decode cX0_open 1 = .ok (.getfield 15, 3) := by decide +kernel
theorem dX0_open_4 : decode cX0_open 4 = .ok (.aload_n 0, 1) := by decide +kernel
theorem dX0_open_5 : decode cX0_open 5 = .ok (.getfield 30, 3) := by decide +kernel
theorem dX0_open_8 : decode cX0_open 8 = .ok (.iload_n 1, 1) := by decide +kernel
theorem dX0_open_9 : decode cX0_open 9 = .ok (.iastore, 1) := by decide +kernel
theorem dX0_open_10 : decode cX0_open 10 = .ok (.aload_n 0, 1) := by decide +kernel
theorem dX0_open_11 : decode cX0_open 11 = .ok (.getfield 18, 3) := by decide +kernel
theorem dX0_open_14 : decode cX0_open 14 = .ok (.aload_n 0, 1) := by decide +kernel
theorem dX0_open_15 : decode cX0_open 15 = .ok (.getfield 30, 3) := by decide +kernel
theorem dX0_open_18 : decode cX0_open 18 = .ok (.iconst 0, 1) := by decide +kernel
theorem dX0_open_19 : decode cX0_open 19 = .ok (.iastore, 1) := by decide +kernel
theorem dX0_open_20 : decode cX0_open 20 = .ok (.return_, 1) := by decide +kernel
abbrev M_X0_open : aM := (yX0_open.cls, cX0_open, 2, none, [], yX0_open.name == "<init>")
abbrev J_X0_open (l : Launch) (E : aE) (n0 m0 : Nat) := GG (fun (_ : Unit) => .inl none) l E M_X0_open 0 0 n0 m0
theorem b_X0_open {l : Launch} {E : aE} (hl : l.stackTraces = false) (n0 m0 : Nat) (x1 : Nat) (x2 : Int32) (h0 : aH) : J_X0_open l E n0 m0 0 [(0, .ref (e_z E + x1)), (1, .int x2)] [] h0 (m_X0_open x1 x2 h0) := by
  unfold m_X0_open
  refine g_aload_n (pc := 0) dX0_open_0 0 rfl ?_
  refine g_getr (pc := 1) cl0 (Nat.le_of_ble_eq_true rfl) fk320 (fun _ _ _ => rfl) dX0_open_1 (fun x3 => ?_)
  refine g_aload_n (pc := 4) dX0_open_4 0 rfl ?_
  refine g_geti (pc := 5) cl0 (Nat.le_of_ble_eq_true rfl) fk313 (fun _ _ _ => rfl) dX0_open_5 (fun x4 => ?_)
  refine g_iload_n (pc := 8) dX0_open_8 1 rfl ?_
  refine g_iast (pc := 9) dX0_open_9 (fun h1 => ?_)
  refine g_aload_n (pc := 10) dX0_open_10 0 rfl ?_
  refine g_getr (pc := 11) cl0 (Nat.le_of_ble_eq_true rfl) fk322 (fun _ _ _ => rfl) dX0_open_11 (fun x5 => ?_)
  refine g_aload_n (pc := 14) dX0_open_14 0 rfl ?_
  refine g_geti (pc := 15) cl0 (Nat.le_of_ble_eq_true rfl) fk313 (fun _ _ _ => rfl) dX0_open_15 (fun x6 => ?_)
  refine g_iconst (pc := 18) dX0_open_18 ci_0 ?_
  refine g_iast (pc := 19) dX0_open_19 (fun h2 => ?_)
  exact g_ret (pc := 20) rfl isRet_v dX0_open_20 rfl
theorem p_X0_open {l : Launch} {E : aE} (hl : l.stackTraces = false) (x1 : Nat) (x2 : Int32) (h0 : aH) : MO (fun (_ : Unit) => .inl none) l E yX0_open (.code yX0_open cX0_open 2 none) 0 0 [.ref (e_z E + x1), .int x2] h0 (m_X0_open x1 x2 h0) := g_met hl (by decide +kernel) (Nat.le_of_ble_eq_true rfl) (b_X0_open hl _ _ x1 x2 h0)
theorem dX0_addLeaver_0 : decode cX0_addLeaver 0 = .ok (.aload_n 0, 1) := by decide +kernel
theorem dX0_addLeaver_1 : decode cX0_addLeaver 1 = .ok (.getfield 30, 3) := by decide +kernel
theorem dX0_addLeaver_4 : decode cX0_addLeaver 4 = .ok (.iconst 5, 1) := by decide +kernel
theorem dX0_addLeaver_5 : decode cX0_addLeaver 5 = .ok (.imul, 1) := by decide +kernel
theorem dX0_addLeaver_6 : decode cX0_addLeaver 6 = .ok (.aload_n 0, 1) := by decide +kernel
theorem dX0_addLeaver_7 : decode cX0_addLeaver 7 = .ok (.getfield 18, 3) := by decide +kernel
theorem dX0_addLeaver_10 : decode cX0_addLeaver 10 = .ok (.aload_n 0, 1) := by decide +kernel
theorem dX0_addLeaver_11 : decode cX0_addLeaver 11 = .ok (.getfield 30, 3) := by decide +kernel
theorem dX0_addLeaver_14 : decode cX0_addLeaver 14 = .ok (.iaload, 1) := by decide +kernel
theorem dX0_addLeaver_15 : decode cX0_addLeaver 15 = .ok (.iadd, 1) := by decide +kernel
theorem dX0_addLeaver_16 : decode cX0_addLeaver 16 = .ok (.istore 4, 2) := by decide +kernel
theorem dX0_addLeaver_18 : decode cX0_addLeaver 18 = .ok (.aload_n 0, 1) := by decide +kernel
theorem dX0_addLeaver_19 : decode cX0_addLeaver 19 = .ok (.getfield 21, 3) := by decide +kernel
theorem dX0_addLeaver_22 : decode cX0_addLeaver 22 = .ok (.iload 4, 2) := by decide +kernel
theorem dX0_addLeaver_24 : decode cX0_addLeaver 24 = .ok (.iload_n 1, 1) := by decide +kernel
theorem dX0_addLeaver_25 : decode cX0_addLeaver 25 = .ok (.iastore, 1) := by decide +kernel
theorem dX0_addLeaver_26 : decode cX0_addLeaver 26 = .ok (.aload_n 0, 1) := by decide +kernel
theorem dX0_addLeaver_27 : decode cX0_addLeaver 27 = .ok (.getfield 24, 3) := by decide +kernel
theorem dX0_addLeaver_30 : decode cX0_addLeaver 30 = .ok (.iload 4, 2) := by decide +kernel
theorem dX0_addLeaver_32 : decode cX0_addLeaver 32 = .ok (.iload_n 2, 1) := by decide +kernel
theorem dX0_addLeaver_33 : decode cX0_addLeaver 33 = .ok (.iastore, 1) := by decide +kernel
theorem dX0_addLeaver_34 : decode cX0_addLeaver 34 = .ok (.aload_n 0, 1) := by decide +kernel
theorem dX0_addLeaver_35 : decode cX0_addLeaver 35 = .ok (.getfield 27, 3) := by decide +kernel
theorem dX0_addLeaver_38 : decode cX0_addLeaver 38 = .ok (.iload 4, 2) := by decide +kernel
theorem dX0_addLeaver_40 : decode cX0_addLeaver 40 = .ok (.iload_n 3, 1) := by decide +kernel
theorem dX0_addLeaver_41 : decode cX0_addLeaver 41 = .ok (.iastore, 1) := by decide +kernel
theorem dX0_addLeaver_42 : decode cX0_addLeaver 42 = .ok (.aload_n 0, 1) := by decide +kernel
theorem dX0_addLeaver_43 : decode cX0_addLeaver 43 = .ok (.getfield 18, 3) := by decide +kernel
theorem dX0_addLeaver_46 : decode cX0_addLeaver 46 = .ok (.aload_n 0, 1) := by decide +kernel
theorem dX0_addLeaver_47 : decode cX0_addLeaver 47 = .ok (.getfield 30, 3) := by decide +kernel
theorem dX0_addLeaver_50 : decode cX0_addLeaver 50 = .ok (.dup2, 1) := by decide +kernel
theorem dX0_addLeaver_51 : decode cX0_addLeaver 51 = .ok (.iaload, 1) := by decide +kernel
theorem dX0_addLeaver_52 : decode cX0_addLeaver 52 = .ok (.iconst 1, 1) := by decide +kernel
theorem dX0_addLeaver_53 : decode cX0_addLeaver 53 = .ok (.iadd, 1) := by decide +kernel
theorem dX0_addLeaver_54 : decode cX0_addLeaver 54 = .ok (.iastore, 1) := by decide +kernel
theorem dX0_addLeaver_55 : decode cX0_addLeaver 55 = .ok (.return_, 1) := by decide +kernel
abbrev M_X0_addLeaver : aM := (yX0_addLeaver.cls, cX0_addLeaver, 5, none, [], yX0_addLeaver.name == "<init>")
abbrev J_X0_addLeaver (l : Launch) (E : aE) (n0 m0 : Nat) := GG (fun (_ : Unit) => .inl none) l E M_X0_addLeaver 0 0 n0 m0
theorem b_X0_addLeaver {l : Launch} {E : aE} (hl : l.stackTraces = false) (n0 m0 : Nat) (x1 : Nat) (x2 : Int32) (x3 : Int32) (x4 : Int32) (h0 : aH) : J_X0_addLeaver l E n0 m0 0 [(0, .ref (e_z E + x1)), (1, .int x2), (2, .int x3), (3, .int x4)] [] h0 (m_X0_addLeaver x1 x2 x3 x4 h0) := by
  unfold m_X0_addLeaver
  refine g_aload_n (pc := 0) dX0_addLeaver_0 0 rfl ?_
  refine g_geti (pc := 1) cl0 (Nat.le_of_ble_eq_true rfl) fk313 (fun _ _ _ => rfl) dX0_addLeaver_1 (fun x5 => ?_)
  refine g_iconst (pc := 4) dX0_addLeaver_4 ci_5 ?_
  refine g_imul (pc := 5) dX0_addLeaver_5 ?_
  refine g_aload_n (pc := 6) dX0_addLeaver_6 0 rfl ?_
  refine g_getr (pc := 7) cl0 (Nat.le_of_ble_eq_true rfl) fk322 (fun _ _ _ => rfl) dX0_addLeaver_7 (fun x6 => ?_)
  refine g_aload_n (pc := 10) dX0_addLeaver_10 0 rfl ?_
  refine g_geti (pc := 11) cl0 (Nat.le_of_ble_eq_true rfl) fk313 (fun _ _ _ => rfl) dX0_addLeaver_11 (fun x7 => ?_)
  refine g_iald (pc := 14) dX0_addLeaver_14 (fun x8 => ?_)
  refine g_iadd (pc := 15) dX0_addLeaver_15 ?_
  refine g_topi (fun x9 => ?_)
  refine g_istore (pc := 16) (lv' := [(4, .int x9), (0, .ref (e_z E + x1)), (1, .int x2), (2, .int x3), (3, .int x4)]) dX0_addLeaver_16 (Nat.le_of_ble_eq_true rfl) rfl ?_
  refine g_aload_n (pc := 18) dX0_addLeaver_18 1 rfl ?_
  refine g_getr (pc := 19) cl0 (Nat.le_of_ble_eq_true rfl) fk324 (fun _ _ _ => rfl) dX0_addLeaver_19 (fun x10 => ?_)
  refine g_iload (pc := 22) dX0_addLeaver_22 0 rfl ?_
  refine g_iload_n (pc := 24) dX0_addLeaver_24 2 rfl ?_
  refine g_iast (pc := 25) dX0_addLeaver_25 (fun h1 => ?_)
  refine g_aload_n (pc := 26) dX0_addLeaver_26 1 rfl ?_
  refine g_getr (pc := 27) cl0 (Nat.le_of_ble_eq_true rfl) fk326 (fun _ _ _ => rfl) dX0_addLeaver_27 (fun x11 => ?_)
  refine g_iload (pc := 30) dX0_addLeaver_30 0 rfl ?_
  refine g_iload_n (pc := 32) dX0_addLeaver_32 3 rfl ?_
  refine g_iast (pc := 33) dX0_addLeaver_33 (fun h2 => ?_)
  refine g_aload_n (pc := 34) dX0_addLeaver_34 1 rfl ?_
  refine g_getr (pc := 35) cl0 (Nat.le_of_ble_eq_true rfl) fk328 (fun _ _ _ => rfl) dX0_addLeaver_35 (fun x12 => ?_)
  refine g_iload (pc := 38) dX0_addLeaver_38 0 rfl ?_
  refine g_iload_n (pc := 40) dX0_addLeaver_40 4 rfl ?_
  refine g_iast (pc := 41) dX0_addLeaver_41 (fun h3 => ?_)
  refine g_aload_n (pc := 42) dX0_addLeaver_42 1 rfl ?_
  refine g_getr (pc := 43) cl0 (Nat.le_of_ble_eq_true rfl) fk322 (fun _ _ _ => rfl) dX0_addLeaver_43 (fun x13 => ?_)
  refine g_aload_n (pc := 46) dX0_addLeaver_46 1 rfl ?_
  refine g_geti (pc := 47) cl0 (Nat.le_of_ble_eq_true rfl) fk313 (fun _ _ _ => rfl) dX0_addLeaver_47 (fun x14 => ?_)
  refine g_dup2 (pc := 50) rfl rfl dX0_addLeaver_50 ?_
  refine g_iald (pc := 51) dX0_addLeaver_51 (fun x15 => ?_)
  refine g_iconst (pc := 52) dX0_addLeaver_52 ci_1 ?_
  refine g_iadd (pc := 53) dX0_addLeaver_53 ?_
  refine g_iast (pc := 54) dX0_addLeaver_54 (fun h4 => ?_)
  exact g_ret (pc := 55) rfl isRet_v dX0_addLeaver_55 rfl
theorem p_X0_addLeaver {l : Launch} {E : aE} (hl : l.stackTraces = false) (x1 : Nat) (x2 : Int32) (x3 : Int32) (x4 : Int32) (h0 : aH) : MO (fun (_ : Unit) => .inl none) l E yX0_addLeaver (.code yX0_addLeaver cX0_addLeaver 5 none) 0 0 [.ref (e_z E + x1), .int x2, .int x3, .int x4] h0 (m_X0_addLeaver x1 x2 x3 x4 h0) := g_met hl (by decide +kernel) (Nat.le_of_ble_eq_true rfl) (b_X0_addLeaver hl _ _ x1 x2 x3 x4 h0)
theorem dX0_close_0 : decode cX0_close 0 = .ok (.aload_n 0, 1) := by decide +kernel
theorem dX0_close_1 : decode cX0_close 1 = .ok (.getfield 9, 3) := by decide +kernel
theorem dX0_close_4 : decode cX0_close 4 = .ok (.aload_n 0, 1) := by decide +kernel
theorem dX0_close_5 : decode cX0_close 5 = .ok (.getfield 30, 3) := by decide +kernel
theorem dX0_close_8 : decode cX0_close 8 = .ok (.iload_n 1, 1) := by decide +kernel
theorem dX0_close_9 : decode cX0_close 9 = .ok (.iastore, 1) := by decide +kernel
theorem dX0_close_10 : decode cX0_close 10 = .ok (.aload_n 0, 1) := by decide +kernel
theorem dX0_close_11 : decode cX0_close 11 = .ok (.iload_n 2, 1) := by decide +kernel
theorem dX0_close_12 : decode cX0_close 12 = .ok (.ifCond .eq 17, 3) := by decide +kernel
theorem dX0_close_15 : decode cX0_close 15 = .ok (.aload_n 0, 1) := by decide +kernel
theorem dX0_close_16 : decode cX0_close 16 = .ok (.getfield 38, 3) := by decide +kernel
theorem dX0_close_19 : decode cX0_close 19 = .ok (.iconst 1, 1) := by decide +kernel
theorem dX0_close_20 : decode cX0_close 20 = .ok (.aload_n 0, 1) := by decide +kernel
theorem dX0_close_21 : decode cX0_close 21 = .ok (.getfield 30, 3) := by decide +kernel
theorem dX0_close_24 : decode cX0_close 24 = .ok (.ishl, 1) := by decide +kernel
theorem dX0_close_25 : decode cX0_close 25 = .ok (.ior, 1) := by decide +kernel
theorem dX0_close_26 : decode cX0_close 26 = .ok (.goto 16, 3) := by decide +kernel
theorem dX0_close_29 : decode cX0_close 29 = .ok (.aload_n 0, 1) := by decide +kernel
theorem dX0_close_30 : decode cX0_close 30 = .ok (.getfield 38, 3) := by decide +kernel
theorem dX0_close_33 : decode cX0_close 33 = .ok (.iconst 1, 1) := by decide +kernel
theorem dX0_close_34 : decode cX0_close 34 = .ok (.aload_n 0, 1) := by decide +kernel
theorem dX0_close_35 : decode cX0_close 35 = .ok (.getfield 30, 3) := by decide +kernel
theorem dX0_close_38 : decode cX0_close 38 = .ok (.ishl, 1) := by decide +kernel
theorem dX0_close_39 : decode cX0_close 39 = .ok (.iconst (-1), 1) := by decide +kernel
theorem dX0_close_40 : decode cX0_close 40 = .ok (.ixor, 1) := by decide +kernel
theorem dX0_close_41 : decode cX0_close 41 = .ok (.iand, 1) := by decide +kernel
theorem dX0_close_42 : decode cX0_close 42 = .ok (.putfield 38, 3) := by decide +kernel
theorem dX0_close_45 : decode cX0_close 45 = .ok (.aload_n 0, 1) := by decide +kernel
theorem dX0_close_46 : decode cX0_close 46 = .ok (.dup, 1) := by decide +kernel
theorem dX0_close_47 : decode cX0_close 47 = .ok (.getfield 30, 3) := by decide +kernel
theorem dX0_close_50 : decode cX0_close 50 = .ok (.iconst 1, 1) := by decide +kernel
theorem dX0_close_51 : decode cX0_close 51 = .ok (.iadd, 1) := by decide +kernel
theorem dX0_close_52 : decode cX0_close 52 = .ok (.putfield 30, 3) := by decide +kernel
theorem dX0_close_55 : decode cX0_close 55 = .ok (.aload_n 0, 1) := by decide +kernel
theorem dX0_close_56 : decode cX0_close 56 = .ok (.getfield 30, 3) := by decide +kernel
theorem dX0_close_59 : decode cX0_close 59 = .ok (.iconst 1, 1) := by decide +kernel
theorem dX0_close_60 : decode cX0_close 60 = .ok (.isub, 1) := by decide +kernel
theorem dX0_close_61 : decode cX0_close 61 = .ok (.ireturn, 1) := by decide +kernel
abbrev M_X0_close : aM := (yX0_close.cls, cX0_close, 3, (some .int), [], yX0_close.name == "<init>")
abbrev J_X0_close (l : Launch) (E : aE) (n0 m0 : Nat) := GG (fun (v : Int32) => .inl (some (.int v))) l E M_X0_close 0 0 n0 m0
theorem b_X0_close {l : Launch} {E : aE} (hl : l.stackTraces = false) (n0 m0 : Nat) (x1 : Nat) (x2 : Int32) (x3 : Int32) (h0 : aH) : J_X0_close l E n0 m0 0 [(0, .ref (e_z E + x1)), (1, .int x2), (2, .int x3)] [] h0 (m_X0_close x1 x2 x3 h0) := by
  unfold m_X0_close
  refine g_aload_n (pc := 0) dX0_close_0 0 rfl ?_
  refine g_getr (pc := 1) cl0 (Nat.le_of_ble_eq_true rfl) fk316 (fun _ _ _ => rfl) dX0_close_1 (fun x4 => ?_)
  refine g_aload_n (pc := 4) dX0_close_4 0 rfl ?_
  refine g_geti (pc := 5) cl0 (Nat.le_of_ble_eq_true rfl) fk313 (fun _ _ _ => rfl) dX0_close_5 (fun x5 => ?_)
  refine g_iload_n (pc := 8) dX0_close_8 1 rfl ?_
  refine g_iast (pc := 9) dX0_close_9 (fun h1 => ?_)
  refine g_aload_n (pc := 10) dX0_close_10 0 rfl ?_
  refine g_iload_n (pc := 11) dX0_close_11 2 rfl ?_
  refine g_join (fun k => ∀ (x6 : Int32) (h2 : aH), J_X0_close l E n0 m0 42 [(0, .ref (e_z E + x1))] [.int x6, .ref (e_z E + x1)] h2 (k x6 h2)) (fun x6 h2 => ?_) (fun k42 hk42 => ?_)
  · refine g_puti (pc := 42) cl0 (Nat.le_of_ble_eq_true rfl) (Or.inl ⟨rfl, fk318⟩) (fun _ _ _ => rfl) (fun _ => ⟨rfl, rfl⟩) dX0_close_42 (fun h3 => ?_)
    refine g_aload_n (pc := 45) dX0_close_45 0 rfl ?_
    refine g_dup (pc := 46) rfl dX0_close_46 ?_
    refine g_geti (pc := 47) cl0 (Nat.le_of_ble_eq_true rfl) fk313 (fun _ _ _ => rfl) dX0_close_47 (fun x7 => ?_)
    refine g_iconst (pc := 50) dX0_close_50 ci_1 ?_
    refine g_iadd (pc := 51) dX0_close_51 ?_
    refine g_puti (pc := 52) cl0 (Nat.le_of_ble_eq_true rfl) (Or.inl ⟨rfl, fk313⟩) (fun _ _ _ => rfl) (fun _ => ⟨rfl, rfl⟩) dX0_close_52 (fun h4 => ?_)
    refine g_aload_n (pc := 55) dX0_close_55 0 rfl ?_
    refine g_geti (pc := 56) cl0 (Nat.le_of_ble_eq_true rfl) fk313 (fun _ _ _ => rfl) dX0_close_56 (fun x8 => ?_)
    refine g_iconst (pc := 59) dX0_close_59 ci_1 ?_
    refine g_isub (pc := 60) dX0_close_60 ?_
    exact g_ret (pc := 61) rfl (isRet_i _) dX0_close_61 rfl
  refine g_ifeq (pc := 12) (tgt := 29) dX0_close_12 rfl ?_ ?_
  · refine g_aload_n (pc := 29) dX0_close_29 0 rfl ?_
    refine g_geti (pc := 30) cl0 (Nat.le_of_ble_eq_true rfl) fk318 (fun _ _ _ => rfl) dX0_close_30 (fun x9 => ?_)
    refine g_iconst (pc := 33) dX0_close_33 ci_1 ?_
    refine g_aload_n (pc := 34) dX0_close_34 0 rfl ?_
    refine g_geti (pc := 35) cl0 (Nat.le_of_ble_eq_true rfl) fk313 (fun _ _ _ => rfl) dX0_close_35 (fun x10 => ?_)
    refine g_ishl (pc := 38) dX0_close_38 ?_
    refine g_iconst (pc := 39) dX0_close_39 ci_m1 ?_
    refine g_ixor (pc := 40) dX0_close_40 ?_
    refine g_iand (pc := 41) dX0_close_41 ?_
    refine g_lv [0] rfl ?_
    exact hk42 (x9 &&& (((1 : Int32) <<< (x10 &&& 31)) ^^^ (-1 : Int32))) h1
  · refine g_aload_n (pc := 15) dX0_close_15 0 rfl ?_
    refine g_geti (pc := 16) cl0 (Nat.le_of_ble_eq_true rfl) fk318 (fun _ _ _ => rfl) dX0_close_16 (fun x11 => ?_)
    refine g_iconst (pc := 19) dX0_close_19 ci_1 ?_
    refine g_aload_n (pc := 20) dX0_close_20 0 rfl ?_
    refine g_geti (pc := 21) cl0 (Nat.le_of_ble_eq_true rfl) fk313 (fun _ _ _ => rfl) dX0_close_21 (fun x12 => ?_)
    refine g_ishl (pc := 24) dX0_close_24 ?_
    refine g_ior (pc := 25) dX0_close_25 ?_
    refine g_goto (pc := 26) (tgt := 42) dX0_close_26 rfl ?_
    refine g_lv [0] rfl ?_
    exact hk42 (x11 ||| ((1 : Int32) <<< (x12 &&& 31))) h1
theorem p_X0_close {l : Launch} {E : aE} (hl : l.stackTraces = false) (x1 : Nat) (x2 : Int32) (x3 : Int32) (h0 : aH) : MO (fun (v : Int32) => .inl (some (.int v))) l E yX0_close (.code yX0_close cX0_close 3 (some .int)) 0 0 [.ref (e_z E + x1), .int x2, .int x3] h0 (m_X0_close x1 x2 x3 h0) := g_met hl (by decide +kernel) (Nat.le_of_ble_eq_true rfl) (b_X0_close hl _ _ x1 x2 x3 h0)
theorem dX1_init_0 : decode cX1_init 0 = .ok (.aload_n 0, 1) := by decide +kernel
theorem dX1_init_1 : decode cX1_init 1 = .ok (.invokespecial 3, 3) := by decide +kernel
theorem dX1_init_4 : decode cX1_init 4 = .ok (.aload_n 0, 1) := by decide +kernel
theorem dX1_init_5 : decode cX1_init 5 = .ok (.bipush 6, 2) := by decide +kernel
theorem dX1_init_7 : decode cX1_init 7 = .ok (.newarray .int, 2) := by decide +kernel
theorem dX1_init_9 : decode cX1_init 9 = .ok (.putfield 9, 3) := by decide +kernel
theorem dX1_init_12 : decode cX1_init 12 = .ok (.aload_n 0, 1) := by decide +kernel
theorem dX1_init_13 : decode cX1_init 13 = .ok (.bipush 32, 2) := by decide +kernel
theorem dX1_init_15 : decode cX1_init 15 = .ok (.newarray .int, 2) := by decide +kernel
theorem dX1_init_17 : decode cX1_init 17 = .ok (.putfield 15, 3) := by decide +kernel
theorem dX1_init_20 : decode cX1_init 20 = .ok (.return_, 1) := by decide +kernel
abbrev M_X1_init : aM := (yX1_init.cls, cX1_init, 1, none, [], yX1_init.name == "<init>")
abbrev J_X1_init (l : Launch) (E : aE) (n0 m0 : Nat) := GG (fun (_ : Unit) => .inl none) l E M_X1_init 1 30 n0 m0
theorem b_X1_init {l : Launch} {E : aE} (hl : l.stackTraces = false) (n0 m0 : Nat) (x1 : Nat) (h0 : aH) : J_X1_init l E n0 m0 0 [(0, .ref (e_z E + x1))] [] h0 (m_X1_init x1 h0) := by
  unfold m_X1_init
  refine g_aload_n (pc := 0) dX1_init_0 0 rfl ?_
  refine g_objInit (pc := 1) tw167 tw35 tw36 (Nat.le_of_ble_eq_true rfl) (Nat.le_of_ble_eq_true rfl) dX1_init_1 ?_
  refine g_aload_n (pc := 4) dX1_init_4 0 rfl ?_
  refine g_bipush (pc := 5) dX1_init_5 cb_6 ?_
  refine g_newa (pc := 7) (t := 0) (n := 6) (x := (6 : Int32)) at_0 tw134 (by decide +kernel) (Nat.le_of_ble_eq_true rfl) dX1_init_7 (fun x2 h1 => ?_)
  refine g_putr (pc := 9) cl1 (Nat.le_of_ble_eq_true rfl) (Or.inr ⟨rfl, rfl, by decide +kernel, tw176⟩) (fun _ _ _ => rfl) (fun _ => ⟨rfl, rfl⟩) dX1_init_9 (fun h2 => ?_)
  refine g_aload_n (pc := 12) dX1_init_12 0 rfl ?_
  refine g_bipush (pc := 13) dX1_init_13 cb_32 ?_
  refine g_newa (pc := 15) (t := 0) (n := 32) (x := (32 : Int32)) at_0 tw134 (by decide +kernel) (Nat.le_of_ble_eq_true rfl) dX1_init_15 (fun x3 h3 => ?_)
  refine g_putr (pc := 17) cl1 (Nat.le_of_ble_eq_true rfl) (Or.inr ⟨rfl, rfl, by decide +kernel, tw178⟩) (fun _ _ _ => rfl) (fun _ => ⟨rfl, rfl⟩) dX1_init_17 (fun h4 => ?_)
  exact g_ret (pc := 20) rfl isRet_v dX1_init_20 rfl
theorem p_X1_init {l : Launch} {E : aE} (hl : l.stackTraces = false) (x1 : Nat) (h0 : aH) : MO (fun (_ : Unit) => .inl none) l E yX1_init (.code yX1_init cX1_init 1 none) 1 30 [.ref (e_z E + x1)] h0 (m_X1_init x1 h0) := g_met hl (by decide +kernel) (Nat.le_of_ble_eq_true rfl) (b_X1_init hl _ _ x1 h0)
theorem dX1_addPost_0 : decode cX1_addPost 0 = .ok (.aload_n 0, 1) := by decide +kernel
theorem dX1_addPost_1 : decode cX1_addPost 1 = .ok (.getfield 9, 3) := by decide +kernel
theorem dX1_addPost_4 : decode cX1_addPost 4 = .ok (.aload_n 0, 1) := by decide +kernel
theorem dX1_addPost_5 : decode cX1_addPost 5 = .ok (.getfield 18, 3) := by decide +kernel
theorem dX1_addPost_8 : decode cX1_addPost 8 = .ok (.iload_n 1, 1) := by decide +kernel
theorem dX1_addPost_9 : decode cX1_addPost 9 = .ok (.iastore, 1) := by decide +kernel
theorem dX1_addPost_10 : decode cX1_addPost 10 = .ok (.aload_n 0, 1) := by decide +kernel
theorem dX1_addPost_11 : decode cX1_addPost 11 = .ok (.dup, 1) := by decide +kernel
theorem dX1_addPost_12 : decode cX1_addPost 12 = .ok (.getfield 18, 3) := by decide +kernel
theorem dX1_addPost_15 : decode cX1_addPost 15 = .ok (.iconst 1, 1) := by decide +kernel
theorem dX1_addPost_16 : decode cX1_addPost 16 = .ok (.iadd, 1) := by decide +kernel
theorem dX1_addPost_17 : decode cX1_addPost 17 = .ok (.putfield 18, 3) := by decide +kernel
theorem dX1_addPost_20 : decode cX1_addPost 20 = .ok (.iconst 0, 1) := by decide +kernel
theorem dX1_addPost_21 : decode cX1_addPost 21 = .ok (.istore_n 2, 1) := by decide +kernel
theorem dX1_addPost_22 : decode cX1_addPost 22 = .ok (.iload_n 2, 1) := by decide +kernel
theorem dX1_addPost_23 : decode cX1_addPost 23 = .ok (.bipush 32, 2) := by decide +kernel
theorem dX1_addPost_25 : decode cX1_addPost 25 = .ok (.if_icmp .ge 25, 3) := by decide +kernel
theorem dX1_addPost_28 : decode cX1_addPost 28 = .ok (.iload_n 2, 1) := by decide +kernel
theorem dX1_addPost_29 : decode cX1_addPost 29 = .ok (.iload_n 1, 1) := by decide +kernel
theorem dX1_addPost_30 : decode cX1_addPost 30 = .ok (.iand, 1) := by decide +kernel
theorem dX1_addPost_31 : decode cX1_addPost 31 = .ok (.ifCond .eq 13, 3) := by decide +kernel
theorem dX1_addPost_34 : decode cX1_addPost 34 = .ok (.aload_n 0, 1) := by decide +kernel
theorem dX1_addPost_35 : decode cX1_addPost 35 = .ok (.getfield 15, 3) := by decide +kernel
theorem dX1_addPost_38 : decode cX1_addPost 38 = .ok (.iload_n 2, 1) := by decide +kernel
theorem dX1_addPost_39 : decode cX1_addPost 39 = .ok (.dup2, 1) := by decide +kernel
theorem dX1_addPost_40 : decode cX1_addPost 40 = .ok (.iaload, 1) := by decide +kernel
theorem dX1_addPost_41 : decode cX1_addPost 41 = .ok (.iconst 1, 1) := by decide +kernel
theorem dX1_addPost_42 : decode cX1_addPost 42 = .ok (.iadd, 1) := by decide +kernel
theorem dX1_addPost_43 : decode cX1_addPost 43 = .ok (.iastore, 1) := by decide +kernel
theorem dX1_addPost_44 : decode cX1_addPost 44 = .ok (.iinc 2 1, 3) := by decide +kernel
theorem dX1_addPost_47 : decode cX1_addPost 47 = .ok (.goto (-25), 3) := by decide +kernel
theorem dX1_addPost_50 : decode cX1_addPost 50 = .ok (.return_, 1) := by decide +kernel
abbrev M_X1_addPost : aM := (yX1_addPost.cls, cX1_addPost, 3, none, [], yX1_addPost.name == "<init>")
abbrev J_X1_addPost (l : Launch) (E : aE) (n0 m0 : Nat) := GG (fun (_ : Unit) => .inl none) l E M_X1_addPost 0 0 n0 m0
theorem b_X1_addPost {l : Launch} {E : aE} (hl : l.stackTraces = false) (n0 m0 : Nat) (x1 : Nat) (x2 : Int32) (h0 : aH) : J_X1_addPost l E n0 m0 0 [(0, .ref (e_z E + x1)), (1, .int x2)] [] h0 (m_X1_addPost x1 x2 h0) := by
  unfold m_X1_addPost
  refine g_aload_n (pc := 0) dX1_addPost_0 0 rfl ?_
  refine g_getr (pc := 1) cl1 (Nat.le_of_ble_eq_true rfl) fk176 (fun _ _ _ => rfl) dX1_addPost_1 (fun x3 => ?_)
  refine g_aload_n (pc := 4) dX1_addPost_4 0 rfl ?_
  refine g_geti (pc := 5) cl1 (Nat.le_of_ble_eq_true rfl) fk172 (fun _ _ _ => rfl) dX1_addPost_5 (fun x4 => ?_)
  refine g_iload_n (pc := 8) dX1_addPost_8 1 rfl ?_
  refine g_iast (pc := 9) dX1_addPost_9 (fun h1 => ?_)
  refine g_aload_n (pc := 10) dX1_addPost_10 0 rfl ?_
  refine g_dup (pc := 11) rfl dX1_addPost_11 ?_
  refine g_geti (pc := 12) cl1 (Nat.le_of_ble_eq_true rfl) fk172 (fun _ _ _ => rfl) dX1_addPost_12 (fun x5 => ?_)
  refine g_iconst (pc := 15) dX1_addPost_15 ci_1 ?_
  refine g_iadd (pc := 16) dX1_addPost_16 ?_
  refine g_puti (pc := 17) cl1 (Nat.le_of_ble_eq_true rfl) (Or.inl ⟨rfl, fk172⟩) (fun _ _ _ => rfl) (fun _ => ⟨rfl, rfl⟩) dX1_addPost_17 (fun h2 => ?_)
  refine g_iconst (pc := 20) dX1_addPost_20 ci_0 ?_
  refine g_istore_n (pc := 21) (lv' := [(2, .int (0 : Int32)), (0, .ref (e_z E + x1)), (1, .int x2)]) dX1_addPost_21 (Nat.le_of_ble_eq_true rfl) rfl ?_
  refine g_join (fun k => ∀ (h3 : aH), J_X1_addPost l E n0 m0 50 [] [] h3 (k h3)) (fun h3 => ?_) (fun k50 hk50 => ?_)
  · exact g_ret (pc := 50) rfl isRet_v dX1_addPost_50 rfl
  refine g_lv [1, 2, 0] rfl ?_
  refine g_loop1 (F := (m_X1_addPost_L22 x1 x2 k50)) (fun x6 => [(0, .ref (e_z E + x1)), (1, .int x2), (2, .int x6)]) (fun r22 hr22 x6 h4 => ?_) _ _ _
  unfold m_X1_addPost_L22
  refine g_iload_n (pc := 22) dX1_addPost_22 2 rfl ?_
  refine g_bipush (pc := 23) dX1_addPost_23 cb_32 ?_
  refine g_icmpge (pc := 25) (tgt := 50) dX1_addPost_25 rfl ?_ ?_
  · refine g_iload_n (pc := 28) dX1_addPost_28 2 rfl ?_
    refine g_iload_n (pc := 29) dX1_addPost_29 1 rfl ?_
    refine g_iand (pc := 30) dX1_addPost_30 ?_
    refine g_join (fun k => ∀ (h5 : aH), J_X1_addPost l E n0 m0 44 [(0, .ref (e_z E + x1)), (1, .int x2), (2, .int x6)] [] h5 (k h5)) (fun h5 => ?_) (fun k44 hk44 => ?_)
    · refine g_iincN (pc := 44) dX1_addPost_44 2 rfl ci_1 (Nat.le_of_ble_eq_true rfl) (fun x7 => ?_)
      refine g_lvr (lv' := [(2, .int x7), (0, .ref (e_z E + x1)), (1, .int x2)]) rfl ?_
      refine g_goto (pc := 47) (tgt := 22) dX1_addPost_47 rfl ?_
      refine g_lv [1, 2, 0] rfl ?_
      exact hr22 x7 h5
    refine g_ifeq (pc := 31) (tgt := 44) dX1_addPost_31 rfl ?_ ?_
    · exact hk44 h4
    · refine g_aload_n (pc := 34) dX1_addPost_34 0 rfl ?_
      refine g_getr (pc := 35) cl1 (Nat.le_of_ble_eq_true rfl) fk178 (fun _ _ _ => rfl) dX1_addPost_35 (fun x8 => ?_)
      refine g_iload_n (pc := 38) dX1_addPost_38 2 rfl ?_
      refine g_dup2 (pc := 39) rfl rfl dX1_addPost_39 ?_
      refine g_iald (pc := 40) dX1_addPost_40 (fun x9 => ?_)
      refine g_iconst (pc := 41) dX1_addPost_41 ci_1 ?_
      refine g_iadd (pc := 42) dX1_addPost_42 ?_
      refine g_iast (pc := 43) dX1_addPost_43 (fun h6 => ?_)
      exact hk44 h6
  · refine g_lv [] rfl ?_
    exact hk50 h4
theorem p_X1_addPost {l : Launch} {E : aE} (hl : l.stackTraces = false) (x1 : Nat) (x2 : Int32) (h0 : aH) : MO (fun (_ : Unit) => .inl none) l E yX1_addPost (.code yX1_addPost cX1_addPost 3 none) 0 0 [.ref (e_z E + x1), .int x2] h0 (m_X1_addPost x1 x2 h0) := g_met hl (by decide +kernel) (Nat.le_of_ble_eq_true rfl) (b_X1_addPost hl _ _ x1 x2 h0)
theorem dX10_init_0 : decode cX10_init 0 = .ok (.aload_n 0, 1) := by decide +kernel
theorem dX10_init_1 : decode cX10_init 1 = .ok (.invokespecial 3, 3) := by decide +kernel
theorem dX10_init_4 : decode cX10_init 4 = .ok (.aload_n 0, 1) := by decide +kernel
theorem dX10_init_5 : decode cX10_init 5 = .ok (.bipush 12, 2) := by decide +kernel
theorem dX10_init_7 : decode cX10_init 7 = .ok (.newarray .int, 2) := by decide +kernel
theorem dX10_init_9 : decode cX10_init 9 = .ok (.putfield 9, 3) := by decide +kernel
theorem dX10_init_12 : decode cX10_init 12 = .ok (.aload_n 0, 1) := by decide +kernel
theorem dX10_init_13 : decode cX10_init 13 = .ok (.bipush 12, 2) := by decide +kernel
theorem dX10_init_15 : decode cX10_init 15 = .ok (.newarray .int, 2) := by decide +kernel
theorem dX10_init_17 : decode cX10_init 17 = .ok (.putfield 15, 3) := by decide +kernel
theorem dX10_init_20 : decode cX10_init 20 = .ok (.aload_n 0, 1) := by decide +kernel
theorem dX10_init_21 : decode cX10_init 21 = .ok (.bipush 12, 2) := by decide +kernel
theorem dX10_init_23 : decode cX10_init 23 = .ok (.newarray .int, 2) := by decide +kernel
theorem dX10_init_25 : decode cX10_init 25 = .ok (.putfield 18, 3) := by decide +kernel
theorem dX10_init_28 : decode cX10_init 28 = .ok (.aload_n 0, 1) := by decide +kernel
theorem dX10_init_29 : decode cX10_init 29 = .ok (.sipush 144, 3) := by decide +kernel
theorem dX10_init_32 : decode cX10_init 32 = .ok (.newarray .int, 2) := by decide +kernel
theorem dX10_init_34 : decode cX10_init 34 = .ok (.putfield 21, 3) := by decide +kernel
theorem dX10_init_37 : decode cX10_init 37 = .ok (.aload_n 0, 1) := by decide +kernel
theorem dX10_init_38 : decode cX10_init 38 = .ok (.bipush 48, 2) := by decide +kernel
theorem dX10_init_40 : decode cX10_init 40 = .ok (.newarray .int, 2) := by decide +kernel
theorem dX10_init_42 : decode cX10_init 42 = .ok (.putfield 24, 3) := by decide +kernel
theorem dX10_init_45 : decode cX10_init 45 = .ok (.aload_n 0, 1) := by decide +kernel
theorem dX10_init_46 : decode cX10_init 46 = .ok (.bipush 6, 2) := by decide +kernel
theorem dX10_init_48 : decode cX10_init 48 = .ok (.newarray .int, 2) := by decide +kernel
theorem dX10_init_50 : decode cX10_init 50 = .ok (.putfield 27, 3) := by decide +kernel
theorem dX10_init_53 : decode cX10_init 53 = .ok (.aload_n 0, 1) := by decide +kernel
theorem dX10_init_54 : decode cX10_init 54 = .ok (.bipush 18, 2) := by decide +kernel
theorem dX10_init_56 : decode cX10_init 56 = .ok (.newarray .int, 2) := by decide +kernel
theorem dX10_init_58 : decode cX10_init 58 = .ok (.putfield 30, 3) := by decide +kernel
theorem dX10_init_61 : decode cX10_init 61 = .ok (.aload_n 0, 1) := by decide +kernel
theorem dX10_init_62 : decode cX10_init 62 = .ok (.bipush 18, 2) := by decide +kernel
theorem dX10_init_64 : decode cX10_init 64 = .ok (.newarray .int, 2) := by decide +kernel
theorem dX10_init_66 : decode cX10_init 66 = .ok (.putfield 33, 3) := by decide +kernel
theorem dX10_init_69 : decode cX10_init 69 = .ok (.aload_n 0, 1) := by decide +kernel
theorem dX10_init_70 : decode cX10_init 70 = .ok (.iconst 5, 1) := by decide +kernel
theorem dX10_init_71 : decode cX10_init 71 = .ok (.newarray .int, 2) := by decide +kernel
theorem dX10_init_73 : decode cX10_init 73 = .ok (.putfield 36, 3) := by decide +kernel
theorem dX10_init_76 : decode cX10_init 76 = .ok (.aload_n 0, 1) := by decide +kernel
theorem dX10_init_77 : decode cX10_init 77 = .ok (.iconst 5, 1) := by decide +kernel
theorem dX10_init_78 : decode cX10_init 78 = .ok (.newarray .int, 2) := by decide +kernel
theorem dX10_init_80 : decode cX10_init 80 = .ok (.putfield 39, 3) := by decide +kernel
theorem dX10_init_83 : decode cX10_init 83 = .ok (.aload_n 0, 1) := by decide +kernel
theorem dX10_init_84 : decode cX10_init 84 = .ok (.new 42, 3) := by decide +kernel
theorem dX10_init_87 : decode cX10_init 87 = .ok (.dup, 1) := by decide +kernel
theorem dX10_init_88 : decode cX10_init 88 = .ok (.invokespecial 44, 3) := by decide +kernel
theorem dX10_init_91 : decode cX10_init 91 = .ok (.putfield 45, 3) := by decide +kernel
theorem dX10_init_94 : decode cX10_init 94 = .ok (.aload_n 0, 1) := by decide +kernel
theorem dX10_init_95 : decode cX10_init 95 = .ok (.bipush 12, 2) := by decide +kernel
theorem dX10_init_97 : decode cX10_init 97 = .ok (.newarray .int, 2) := by decide +kernel
theorem dX10_init_99 : decode cX10_init 99 = .ok (.putfield 49, 3) := by decide +kernel
theorem dX10_init_102 : decode cX10_init 102 = .ok (.aload_n 0, 1) := by decide +kernel
theorem dX10_init_103 : decode cX10_init 103 = .ok (.aload_n 1, 1) := by decide +kernel
theorem dX10_init_104 : decode cX10_init 104 = .ok (.putfield 52, 3) := by decide +kernel
theorem dX10_init_107 : decode cX10_init 107 = .ok (.return_, 1) := by decide +kernel
abbrev M_X10_init : aM := (yX10_init.cls, cX10_init, 2, none, [], yX10_init.name == "<init>")
abbrev J_X10_init (l : Launch) (E : aE) (n0 m0 : Nat) := GG (fun (_ : Unit) => .inl none) l E M_X10_init 2 50 n0 m0
theorem b_X10_init {l : Launch} {E : aE} (hl : l.stackTraces = false) (n0 m0 : Nat) (x1 : Nat) (x2 : Nat) (h0 : aH) : J_X10_init l E n0 m0 0 [(0, .ref (e_z E + x1)), (1, .ref (e_z E + x2))] [] h0 (m_X10_init x1 x2 h0) := by
  unfold m_X10_init
  refine g_aload_n (pc := 0) dX10_init_0 0 rfl ?_
  refine g_objInit (pc := 1) tw306 tw35 tw36 (Nat.le_of_ble_eq_true rfl) (Nat.le_of_ble_eq_true rfl) dX10_init_1 ?_
  refine g_aload_n (pc := 4) dX10_init_4 0 rfl ?_
  refine g_bipush (pc := 5) dX10_init_5 cb_12 ?_
  refine g_newa (pc := 7) (t := 0) (n := 12) (x := (12 : Int32)) at_0 tw134 (by decide +kernel) (Nat.le_of_ble_eq_true rfl) dX10_init_7 (fun x3 h1 => ?_)
  refine g_putr (pc := 9) cl10 (Nat.le_of_ble_eq_true rfl) (Or.inr ⟨rfl, rfl, by decide +kernel, tw352⟩) (fun _ _ _ => rfl) (fun _ => ⟨rfl, rfl⟩) dX10_init_9 (fun h2 => ?_)
  refine g_aload_n (pc := 12) dX10_init_12 0 rfl ?_
  refine g_bipush (pc := 13) dX10_init_13 cb_12 ?_
  refine g_newa (pc := 15) (t := 0) (n := 12) (x := (12 : Int32)) at_0 tw134 (by decide +kernel) (Nat.le_of_ble_eq_true rfl) dX10_init_15 (fun x4 h3 => ?_)
  refine g_putr (pc := 17) cl10 (Nat.le_of_ble_eq_true rfl) (Or.inr ⟨rfl, rfl, by decide +kernel, tw354⟩) (fun _ _ _ => rfl) (fun _ => ⟨rfl, rfl⟩) dX10_init_17 (fun h4 => ?_)
  refine g_aload_n (pc := 20) dX10_init_20 0 rfl ?_
  refine g_bipush (pc := 21) dX10_init_21 cb_12 ?_
  refine g_newa (pc := 23) (t := 0) (n := 12) (x := (12 : Int32)) at_0 tw134 (by decide +kernel) (Nat.le_of_ble_eq_true rfl) dX10_init_23 (fun x5 h5 => ?_)
  refine g_putr (pc := 25) cl10 (Nat.le_of_ble_eq_true rfl) (Or.inr ⟨rfl, rfl, by decide +kernel, tw356⟩) (fun _ _ _ => rfl) (fun _ => ⟨rfl, rfl⟩) dX10_init_25 (fun h6 => ?_)
  refine g_aload_n (pc := 28) dX10_init_28 0 rfl ?_
  refine g_sipush (pc := 29) dX10_init_29 cs_144 ?_
  refine g_newa (pc := 32) (t := 0) (n := 144) (x := (144 : Int32)) at_0 tw134 (by decide +kernel) (Nat.le_of_ble_eq_true rfl) dX10_init_32 (fun x6 h7 => ?_)
  refine g_putr (pc := 34) cl10 (Nat.le_of_ble_eq_true rfl) (Or.inr ⟨rfl, rfl, by decide +kernel, tw361⟩) (fun _ _ _ => rfl) (fun _ => ⟨rfl, rfl⟩) dX10_init_34 (fun h8 => ?_)
  refine g_aload_n (pc := 37) dX10_init_37 0 rfl ?_
  refine g_bipush (pc := 38) dX10_init_38 cb_48 ?_
  refine g_newa (pc := 40) (t := 0) (n := 48) (x := (48 : Int32)) at_0 tw134 (by decide +kernel) (Nat.le_of_ble_eq_true rfl) dX10_init_40 (fun x7 h9 => ?_)
  refine g_putr (pc := 42) cl10 (Nat.le_of_ble_eq_true rfl) (Or.inr ⟨rfl, rfl, by decide +kernel, tw363⟩) (fun _ _ _ => rfl) (fun _ => ⟨rfl, rfl⟩) dX10_init_42 (fun h10 => ?_)
  refine g_aload_n (pc := 45) dX10_init_45 0 rfl ?_
  refine g_bipush (pc := 46) dX10_init_46 cb_6 ?_
  refine g_newa (pc := 48) (t := 0) (n := 6) (x := (6 : Int32)) at_0 tw134 (by decide +kernel) (Nat.le_of_ble_eq_true rfl) dX10_init_48 (fun x8 h11 => ?_)
  refine g_putr (pc := 50) cl10 (Nat.le_of_ble_eq_true rfl) (Or.inr ⟨rfl, rfl, by decide +kernel, tw365⟩) (fun _ _ _ => rfl) (fun _ => ⟨rfl, rfl⟩) dX10_init_50 (fun h12 => ?_)
  refine g_aload_n (pc := 53) dX10_init_53 0 rfl ?_
  refine g_bipush (pc := 54) dX10_init_54 cb_18 ?_
  refine g_newa (pc := 56) (t := 0) (n := 18) (x := (18 : Int32)) at_0 tw134 (by decide +kernel) (Nat.le_of_ble_eq_true rfl) dX10_init_56 (fun x9 h13 => ?_)
  refine g_putr (pc := 58) cl10 (Nat.le_of_ble_eq_true rfl) (Or.inr ⟨rfl, rfl, by decide +kernel, tw368⟩) (fun _ _ _ => rfl) (fun _ => ⟨rfl, rfl⟩) dX10_init_58 (fun h14 => ?_)
  refine g_aload_n (pc := 61) dX10_init_61 0 rfl ?_
  refine g_bipush (pc := 62) dX10_init_62 cb_18 ?_
  refine g_newa (pc := 64) (t := 0) (n := 18) (x := (18 : Int32)) at_0 tw134 (by decide +kernel) (Nat.le_of_ble_eq_true rfl) dX10_init_64 (fun x10 h15 => ?_)
  refine g_putr (pc := 66) cl10 (Nat.le_of_ble_eq_true rfl) (Or.inr ⟨rfl, rfl, by decide +kernel, tw369⟩) (fun _ _ _ => rfl) (fun _ => ⟨rfl, rfl⟩) dX10_init_66 (fun h16 => ?_)
  refine g_aload_n (pc := 69) dX10_init_69 0 rfl ?_
  refine g_iconst (pc := 70) dX10_init_70 ci_5 ?_
  refine g_newa (pc := 71) (t := 0) (n := 5) (x := (5 : Int32)) at_0 tw134 (by decide +kernel) (Nat.le_of_ble_eq_true rfl) dX10_init_71 (fun x11 h17 => ?_)
  refine g_putr (pc := 73) cl10 (Nat.le_of_ble_eq_true rfl) (Or.inr ⟨rfl, rfl, by decide +kernel, tw370⟩) (fun _ _ _ => rfl) (fun _ => ⟨rfl, rfl⟩) dX10_init_73 (fun h18 => ?_)
  refine g_aload_n (pc := 76) dX10_init_76 0 rfl ?_
  refine g_iconst (pc := 77) dX10_init_77 ci_5 ?_
  refine g_newa (pc := 78) (t := 0) (n := 5) (x := (5 : Int32)) at_0 tw134 (by decide +kernel) (Nat.le_of_ble_eq_true rfl) dX10_init_78 (fun x12 h19 => ?_)
  refine g_putr (pc := 80) cl10 (Nat.le_of_ble_eq_true rfl) (Or.inr ⟨rfl, rfl, by decide +kernel, tw373⟩) (fun _ _ _ => rfl) (fun _ => ⟨rfl, rfl⟩) dX10_init_80 (fun h20 => ?_)
  refine g_aload_n (pc := 83) dX10_init_83 0 rfl ?_
  refine g_newo (pc := 84) (c := 0) (n := 8) cl0 tw307 tw308 tw10 dX10_init_84 (fun x13 h21 => ?_)
  refine g_dup (pc := 87) rfl dX10_init_87 ?_
  refine g_bRv (pc := 88) (c_IN (p_X0_init hl x13 h21) y_X0_init tw309 dX10_init_88 rfl (st := [.ref (e_z E + x13), .ref (e_z E + x1)]) rfl (Nat.le_of_ble_eq_true rfl) (Nat.le_of_ble_eq_true rfl) (Nat.le_of_ble_eq_true rfl)) (fun _ h22 => ?_)
  refine g_putr (pc := 91) cl10 (Nat.le_of_ble_eq_true rfl) (Or.inr ⟨rfl, rfl, by decide +kernel, tw378⟩) (fun _ _ _ => rfl) (fun _ => ⟨rfl, rfl⟩) dX10_init_91 (fun h23 => ?_)
  refine g_aload_n (pc := 94) dX10_init_94 0 rfl ?_
  refine g_bipush (pc := 95) dX10_init_95 cb_12 ?_
  refine g_newa (pc := 97) (t := 0) (n := 12) (x := (12 : Int32)) at_0 tw134 (by decide +kernel) (Nat.le_of_ble_eq_true rfl) dX10_init_97 (fun x14 h24 => ?_)
  refine g_putr (pc := 99) cl10 (Nat.le_of_ble_eq_true rfl) (Or.inr ⟨rfl, rfl, by decide +kernel, tw381⟩) (fun _ _ _ => rfl) (fun _ => ⟨rfl, rfl⟩) dX10_init_99 (fun h25 => ?_)
  refine g_aload_n (pc := 102) dX10_init_102 0 rfl ?_
  refine g_aload_n (pc := 103) dX10_init_103 1 rfl ?_
  refine g_putr (pc := 104) cl10 (Nat.le_of_ble_eq_true rfl) (Or.inl ⟨rfl, fk348⟩) (fun _ _ _ => rfl) (fun _ => ⟨rfl, rfl⟩) dX10_init_104 (fun h26 => ?_)
  exact g_ret (pc := 107) rfl isRet_v dX10_init_107 rfl
theorem p_X10_init {l : Launch} {E : aE} (hl : l.stackTraces = false) (x1 : Nat) (x2 : Nat) (h0 : aH) : MO (fun (_ : Unit) => .inl none) l E yX10_init (.code yX10_init cX10_init 2 none) 2 50 [.ref (e_z E + x1), .ref (e_z E + x2)] h0 (m_X10_init x1 x2 h0) := g_met hl (by decide +kernel) (Nat.le_of_ble_eq_true rfl) (b_X10_init hl _ _ x1 x2 h0)
theorem dX2_init_0 : decode cX2_init 0 = .ok (.aload_n 0, 1) := by decide +kernel
theorem dX2_init_1 : decode cX2_init 1 = .ok (.invokespecial 3, 3) := by decide +kernel
theorem dX2_init_4 : decode cX2_init 4 = .ok (.aload_n 0, 1) := by decide +kernel
theorem dX2_init_5 : decode cX2_init 5 = .ok (.bipush 10, 2) := by decide +kernel
theorem dX2_init_7 : decode cX2_init 7 = .ok (.anewarray 9, 3) := by decide +kernel
theorem dX2_init_10 : decode cX2_init 10 = .ok (.putfield 11, 3) := by decide +kernel
theorem dX2_init_13 : decode cX2_init 13 = .ok (.aload_n 0, 1) := by decide +kernel
theorem dX2_init_14 : decode cX2_init 14 = .ok (.iconst 2, 1) := by decide +kernel
theorem dX2_init_15 : decode cX2_init 15 = .ok (.anewarray 9, 3) := by decide +kernel
theorem dX2_init_18 : decode cX2_init 18 = .ok (.putfield 17, 3) := by decide +kernel
theorem dX2_init_21 : decode cX2_init 21 = .ok (.aload_n 0, 1) := by decide +kernel
theorem dX2_init_22 : decode cX2_init 22 = .ok (.iconst 2, 1) := by decide +kernel
theorem dX2_init_23 : decode cX2_init 23 = .ok (.newarray .boolean, 2) := by decide +kernel
theorem dX2_init_25 : decode cX2_init 25 = .ok (.putfield 20, 3) := by decide +kernel
theorem dX2_init_28 : decode cX2_init 28 = .ok (.iconst 0, 1) := by decide +kernel
theorem dX2_init_29 : decode cX2_init 29 = .ok (.istore_n 2, 1) := by decide +kernel
theorem dX2_init_30 : decode cX2_init 30 = .ok (.iload_n 2, 1) := by decide +kernel
theorem dX2_init_31 : decode cX2_init 31 = .ok (.bipush 10, 2) := by decide +kernel
theorem dX2_init_33 : decode cX2_init 33 = .ok (.if_icmp .ge 23, 3) := by decide +kernel
theorem dX2_init_36 : decode cX2_init 36 = .ok (.aload_n 0, 1) := by decide +kernel
theorem dX2_init_37 : decode cX2_init 37 = .ok (.getfield 11, 3) := by decide +kernel
theorem dX2_init_40 : decode cX2_init 40 = .ok (.iload_n 2, 1) := by decide +kernel
theorem dX2_init_41 : decode cX2_init 41 = .ok (.new 9, 3) := by decide +kernel
theorem dX2_init_44 : decode cX2_init 44 = .ok (.dup, 1) := by decide +kernel
theorem dX2_init_45 : decode cX2_init 45 = .ok (.aload_n 1, 1) := by decide +kernel
theorem dX2_init_46 : decode cX2_init 46 = .ok (.invokespecial 24, 3) := by decide +kernel
theorem dX2_init_49 : decode cX2_init 49 = .ok (.aastore, 1) := by decide +kernel
theorem dX2_init_50 : decode cX2_init 50 = .ok (.iinc 2 1, 3) := by decide +kernel
theorem dX2_init_53 : decode cX2_init 53 = .ok (.goto (-23), 3) := by decide +kernel
theorem dX2_init_56 : decode cX2_init 56 = .ok (.iconst 0, 1) := by decide +kernel
theorem dX2_init_57 : decode cX2_init 57 = .ok (.istore_n 2, 1) := by decide +kernel
theorem dX2_init_58 : decode cX2_init 58 = .ok (.iload_n 2, 1) := by decide +kernel
theorem dX2_init_59 : decode cX2_init 59 = .ok (.iconst 2, 1) := by decide +kernel
theorem dX2_init_60 : decode cX2_init 60 = .ok (.if_icmp .ge 23, 3) := by decide +kernel
theorem dX2_init_63 : decode cX2_init 63 = .ok (.aload_n 0, 1) := by decide +kernel
theorem dX2_init_64 : decode cX2_init 64 = .ok (.getfield 17, 3) := by decide +kernel
theorem dX2_init_67 : decode cX2_init 67 = .ok (.iload_n 2, 1) := by decide +kernel
theorem dX2_init_68 : decode cX2_init 68 = .ok (.new 9, 3) := by decide +kernel
theorem dX2_init_71 : decode cX2_init 71 = .ok (.dup, 1) := by decide +kernel
theorem dX2_init_72 : decode cX2_init 72 = .ok (.aload_n 1, 1) := by decide +kernel
theorem dX2_init_73 : decode cX2_init 73 = .ok (.invokespecial 24, 3) := by decide +kernel
theorem dX2_init_76 : decode cX2_init 76 = .ok (.aastore, 1) := by decide +kernel
theorem dX2_init_77 : decode cX2_init 77 = .ok (.iinc 2 1, 3) := by decide +kernel
theorem dX2_init_80 : decode cX2_init 80 = .ok (.goto (-22), 3) := by decide +kernel
theorem dX2_init_83 : decode cX2_init 83 = .ok (.return_, 1) := by decide +kernel
abbrev M_X2_init : aM := (yX2_init.cls, cX2_init, 3, none, [], yX2_init.name == "<init>")
abbrev J_X2_init (l : Launch) (E : aE) (n0 m0 : Nat) := GG (fun (_ : Unit) => .inl none) l E M_X2_init 3 71 n0 m0
theorem b_X2_init {l : Launch} {E : aE} (hl : l.stackTraces = false) (n0 m0 : Nat) (x1 : Nat) (x2 : Nat) (h0 : aH) : J_X2_init l E n0 m0 0 [(0, .ref (e_z E + x1)), (1, .ref (e_z E + x2))] [] h0 (m_X2_init x1 x2 h0) := by
  unfold m_X2_init
  refine g_aload_n (pc := 0) dX2_init_0 0 rfl ?_
  refine g_objInit (pc := 1) tw465 tw35 tw36 (Nat.le_of_ble_eq_true rfl) (Nat.le_of_ble_eq_true rfl) dX2_init_1 ?_
  refine g_aload_n (pc := 4) dX2_init_4 0 rfl ?_
  refine g_bipush (pc := 5) dX2_init_5 cb_10 ?_
  refine g_newq (pc := 7) (t := 4) (n := 10) (x := (10 : Int32)) (Nat.le_of_ble_eq_true rfl) (Nat.le_of_ble_eq_true rfl) rfl tw466 (by decide) (by decide +kernel) (Nat.le_of_ble_eq_true rfl) dX2_init_7 (fun x3 h1 => ?_)
  refine g_putr (pc := 10) cl2 (Nat.le_of_ble_eq_true rfl) (Or.inr ⟨rfl, rfl, by decide +kernel, tw471⟩) (fun _ _ _ => rfl) (fun _ => ⟨rfl, rfl⟩) dX2_init_10 (fun h2 => ?_)
  refine g_aload_n (pc := 13) dX2_init_13 0 rfl ?_
  refine g_iconst (pc := 14) dX2_init_14 ci_2 ?_
  refine g_newq (pc := 15) (t := 4) (n := 2) (x := (2 : Int32)) (Nat.le_of_ble_eq_true rfl) (Nat.le_of_ble_eq_true rfl) rfl tw466 (by decide) (by decide +kernel) (Nat.le_of_ble_eq_true rfl) dX2_init_15 (fun x4 h3 => ?_)
  refine g_putr (pc := 18) cl2 (Nat.le_of_ble_eq_true rfl) (Or.inr ⟨rfl, rfl, by decide +kernel, tw472⟩) (fun _ _ _ => rfl) (fun _ => ⟨rfl, rfl⟩) dX2_init_18 (fun h4 => ?_)
  refine g_aload_n (pc := 21) dX2_init_21 0 rfl ?_
  refine g_iconst (pc := 22) dX2_init_22 ci_2 ?_
  refine g_newa (pc := 23) (t := 2) (n := 2) (x := (2 : Int32)) at_2 tw485 (by decide +kernel) (Nat.le_of_ble_eq_true rfl) dX2_init_23 (fun x5 h5 => ?_)
  refine g_putr (pc := 25) cl2 (Nat.le_of_ble_eq_true rfl) (Or.inr ⟨rfl, rfl, by decide +kernel, tw474⟩) (fun _ _ _ => rfl) (fun _ => ⟨rfl, rfl⟩) dX2_init_25 (fun h6 => ?_)
  refine g_iconst (pc := 28) dX2_init_28 ci_0 ?_
  refine g_istore_n (pc := 29) (lv' := [(2, .int (0 : Int32)), (0, .ref (e_z E + x1)), (1, .ref (e_z E + x2))]) dX2_init_29 (Nat.le_of_ble_eq_true rfl) rfl ?_
  refine g_join (fun k => ∀ (h7 : aH), J_X2_init l E n0 m0 56 [(0, .ref (e_z E + x1)), (1, .ref (e_z E + x2))] [] h7 (k h7)) (fun h7 => ?_) (fun k56 hk56 => ?_)
  · refine g_iconst (pc := 56) dX2_init_56 ci_0 ?_
    refine g_istore_n (pc := 57) (lv' := [(2, .int (0 : Int32)), (0, .ref (e_z E + x1)), (1, .ref (e_z E + x2))]) dX2_init_57 (Nat.le_of_ble_eq_true rfl) rfl ?_
    refine g_join (fun k => ∀ (h8 : aH), J_X2_init l E n0 m0 83 [] [] h8 (k h8)) (fun h8 => ?_) (fun k83 hk83 => ?_)
    · exact g_ret (pc := 83) rfl isRet_v dX2_init_83 rfl
    refine g_lv [1, 2, 0] rfl ?_
    refine g_loop1 (F := (m_X2_init_L58 x1 x2 k83)) (fun x6 => [(0, .ref (e_z E + x1)), (1, .ref (e_z E + x2)), (2, .int x6)]) (fun r58 hr58 x6 h9 => ?_) _ _ _
    unfold m_X2_init_L58
    refine g_iload_n (pc := 58) dX2_init_58 2 rfl ?_
    refine g_iconst (pc := 59) dX2_init_59 ci_2 ?_
    refine g_icmpge (pc := 60) (tgt := 83) dX2_init_60 rfl ?_ ?_
    · refine g_aload_n (pc := 63) dX2_init_63 0 rfl ?_
      refine g_getr (pc := 64) cl2 (Nat.le_of_ble_eq_true rfl) fk472 (fun _ _ _ => rfl) dX2_init_64 (fun x7 => ?_)
      refine g_iload_n (pc := 67) dX2_init_67 2 rfl ?_
      refine g_newo (pc := 68) (c := 10) (n := 16) cl10 tw466 tw302 tw9 dX2_init_68 (fun x8 h10 => ?_)
      refine g_dup (pc := 71) rfl dX2_init_71 ?_
      refine g_aload_n (pc := 72) dX2_init_72 1 rfl ?_
      refine g_bRv (pc := 73) (c_IN (p_X10_init hl x8 x2 h10) y_X10_init tw468 dX2_init_73 rfl (st := [.ref (e_z E + x8), .int x6, .ref (e_z E + x7)]) rfl (Nat.le_of_ble_eq_true rfl) (Nat.le_of_ble_eq_true rfl) (Nat.le_of_ble_eq_true rfl)) (fun _ h11 => ?_)
      refine g_aast (pc := 76) (t := 4) (c := 10) (Nat.le_of_ble_eq_true rfl) (Nat.le_of_ble_eq_true rfl) cl10 rfl dX2_init_76 (fun h12 => ?_)
      refine g_iincN (pc := 77) dX2_init_77 2 rfl ci_1 (Nat.le_of_ble_eq_true rfl) (fun x9 => ?_)
      refine g_lvr (lv' := [(2, .int x9), (0, .ref (e_z E + x1)), (1, .ref (e_z E + x2))]) rfl ?_
      refine g_goto (pc := 80) (tgt := 58) dX2_init_80 rfl ?_
      refine g_lv [1, 2, 0] rfl ?_
      exact hr58 x9 h12
    · refine g_lv [] rfl ?_
      exact hk83 h9
  refine g_lv [1, 2, 0] rfl ?_
  refine g_loop1 (F := (m_X2_init_L30 x1 x2 k56)) (fun x10 => [(0, .ref (e_z E + x1)), (1, .ref (e_z E + x2)), (2, .int x10)]) (fun r30 hr30 x10 h13 => ?_) _ _ _
  unfold m_X2_init_L30
  refine g_iload_n (pc := 30) dX2_init_30 2 rfl ?_
  refine g_bipush (pc := 31) dX2_init_31 cb_10 ?_
  refine g_icmpge (pc := 33) (tgt := 56) dX2_init_33 rfl ?_ ?_
  · refine g_aload_n (pc := 36) dX2_init_36 0 rfl ?_
    refine g_getr (pc := 37) cl2 (Nat.le_of_ble_eq_true rfl) fk471 (fun _ _ _ => rfl) dX2_init_37 (fun x11 => ?_)
    refine g_iload_n (pc := 40) dX2_init_40 2 rfl ?_
    refine g_newo (pc := 41) (c := 10) (n := 16) cl10 tw466 tw302 tw9 dX2_init_41 (fun x12 h14 => ?_)
    refine g_dup (pc := 44) rfl dX2_init_44 ?_
    refine g_aload_n (pc := 45) dX2_init_45 1 rfl ?_
    refine g_bRv (pc := 46) (c_IN (p_X10_init hl x12 x2 h14) y_X10_init tw468 dX2_init_46 rfl (st := [.ref (e_z E + x12), .int x10, .ref (e_z E + x11)]) rfl (Nat.le_of_ble_eq_true rfl) (Nat.le_of_ble_eq_true rfl) (Nat.le_of_ble_eq_true rfl)) (fun _ h15 => ?_)
    refine g_aast (pc := 49) (t := 4) (c := 10) (Nat.le_of_ble_eq_true rfl) (Nat.le_of_ble_eq_true rfl) cl10 rfl dX2_init_49 (fun h16 => ?_)
    refine g_iincN (pc := 50) dX2_init_50 2 rfl ci_1 (Nat.le_of_ble_eq_true rfl) (fun x13 => ?_)
    refine g_lvr (lv' := [(2, .int x13), (0, .ref (e_z E + x1)), (1, .ref (e_z E + x2))]) rfl ?_
    refine g_goto (pc := 53) (tgt := 30) dX2_init_53 rfl ?_
    refine g_lv [1, 2, 0] rfl ?_
    exact hr30 x13 h16
  · refine g_lv [0, 1] rfl ?_
    exact hk56 h13
theorem p_X2_init {l : Launch} {E : aE} (hl : l.stackTraces = false) (x1 : Nat) (x2 : Nat) (h0 : aH) : MO (fun (_ : Unit) => .inl none) l E yX2_init (.code yX2_init cX2_init 3 none) 3 71 [.ref (e_z E + x1), .ref (e_z E + x2)] h0 (m_X2_init x1 x2 h0) := g_met hl (by decide +kernel) (Nat.le_of_ble_eq_true rfl) (b_X2_init hl _ _ x1 x2 h0)
theorem dX2_clear_0 : decode cX2_clear 0 = .ok (.aload_n 0, 1) := by decide +kernel
theorem dX2_clear_1 : decode cX2_clear 1 = .ok (.iconst 0, 1) := by decide +kernel
theorem dX2_clear_2 : decode cX2_clear 2 = .ok (.putfield 27, 3) := by decide +kernel
theorem dX2_clear_5 : decode cX2_clear 5 = .ok (.iconst 0, 1) := by decide +kernel
theorem dX2_clear_6 : decode cX2_clear 6 = .ok (.istore_n 1, 1) := by decide +kernel
theorem dX2_clear_7 : decode cX2_clear 7 = .ok (.iload_n 1, 1) := by decide +kernel
theorem dX2_clear_8 : decode cX2_clear 8 = .ok (.iconst 2, 1) := by decide +kernel
theorem dX2_clear_9 : decode cX2_clear 9 = .ok (.if_icmp .ge 16, 3) := by decide +kernel
theorem dX2_clear_12 : decode cX2_clear 12 = .ok (.aload_n 0, 1) := by decide +kernel
theorem dX2_clear_13 : decode cX2_clear 13 = .ok (.getfield 20, 3) := by decide +kernel
theorem dX2_clear_16 : decode cX2_clear 16 = .ok (.iload_n 1, 1) := by decide +kernel
theorem dX2_clear_17 : decode cX2_clear 17 = .ok (.iconst 0, 1) := by decide +kernel
theorem dX2_clear_18 : decode cX2_clear 18 = .ok (.bastore, 1) := by decide +kernel
theorem dX2_clear_19 : decode cX2_clear 19 = .ok (.iinc 1 1, 3) := by decide +kernel
theorem dX2_clear_22 : decode cX2_clear 22 = .ok (.goto (-15), 3) := by decide +kernel
theorem dX2_clear_25 : decode cX2_clear 25 = .ok (.return_, 1) := by decide +kernel
abbrev M_X2_clear : aM := (yX2_clear.cls, cX2_clear, 2, none, [], yX2_clear.name == "<init>")
abbrev J_X2_clear (l : Launch) (E : aE) (n0 m0 : Nat) := GG (fun (_ : Unit) => .inl none) l E M_X2_clear 0 0 n0 m0
theorem b_X2_clear {l : Launch} {E : aE} (hl : l.stackTraces = false) (n0 m0 : Nat) (x1 : Nat) (h0 : aH) : J_X2_clear l E n0 m0 0 [(0, .ref (e_z E + x1))] [] h0 (m_X2_clear x1 h0) := by
  unfold m_X2_clear
  refine g_aload_n (pc := 0) dX2_clear_0 0 rfl ?_
  refine g_iconst (pc := 1) dX2_clear_1 ci_0 ?_
  refine g_puti (pc := 2) cl2 (Nat.le_of_ble_eq_true rfl) (Or.inl ⟨rfl, fk469⟩) (fun _ _ _ => rfl) (fun _ => ⟨rfl, rfl⟩) dX2_clear_2 (fun h1 => ?_)
  refine g_iconst (pc := 5) dX2_clear_5 ci_0 ?_
  refine g_istore_n (pc := 6) (lv' := [(1, .int (0 : Int32)), (0, .ref (e_z E + x1))]) dX2_clear_6 (Nat.le_of_ble_eq_true rfl) rfl ?_
  refine g_join (fun k => ∀ (h2 : aH), J_X2_clear l E n0 m0 25 [] [] h2 (k h2)) (fun h2 => ?_) (fun k25 hk25 => ?_)
  · exact g_ret (pc := 25) rfl isRet_v dX2_clear_25 rfl
  refine g_lv [1, 0] rfl ?_
  refine g_loop1 (F := (m_X2_clear_L7 x1 k25)) (fun x2 => [(0, .ref (e_z E + x1)), (1, .int x2)]) (fun r7 hr7 x2 h3 => ?_) _ _ _
  unfold m_X2_clear_L7
  refine g_iload_n (pc := 7) dX2_clear_7 1 rfl ?_
  refine g_iconst (pc := 8) dX2_clear_8 ci_2 ?_
  refine g_icmpge (pc := 9) (tgt := 25) dX2_clear_9 rfl ?_ ?_
  · refine g_aload_n (pc := 12) dX2_clear_12 0 rfl ?_
    refine g_getr (pc := 13) cl2 (Nat.le_of_ble_eq_true rfl) fk474 (fun _ _ _ => rfl) dX2_clear_13 (fun x3 => ?_)
    refine g_iload_n (pc := 16) dX2_clear_16 1 rfl ?_
    refine g_iconst (pc := 17) dX2_clear_17 ci_0 ?_
    refine g_zast (pc := 18) dX2_clear_18 (fun h4 => ?_)
    refine g_iincN (pc := 19) dX2_clear_19 1 rfl ci_1 (Nat.le_of_ble_eq_true rfl) (fun x4 => ?_)
    refine g_lvr (lv' := [(1, .int x4), (0, .ref (e_z E + x1))]) rfl ?_
    refine g_goto (pc := 22) (tgt := 7) dX2_clear_22 rfl ?_
    refine g_lv [1, 0] rfl ?_
    exact hr7 x4 h4
  · refine g_lv [] rfl ?_
    exact hk25 h3
theorem p_X2_clear {l : Launch} {E : aE} (hl : l.stackTraces = false) (x1 : Nat) (h0 : aH) : MO (fun (_ : Unit) => .inl none) l E yX2_clear (.code yX2_clear cX2_clear 2 none) 0 0 [.ref (e_z E + x1)] h0 (m_X2_clear x1 h0) := g_met hl (by decide +kernel) (Nat.le_of_ble_eq_true rfl) (b_X2_clear hl _ _ x1 h0)
theorem dX2_forgetOldest_0 : decode cX2_forgetOldest 0 = .ok (.aload_n 0, 1) := by decide +kernel
theorem dX2_forgetOldest_1 : decode cX2_forgetOldest 1 = .ok (.getfield 11, 3) := by decide +kernel
theorem dX2_forgetOldest_4 : decode cX2_forgetOldest 4 = .ok (.iconst 0, 1) := by decide +kernel
theorem dX2_forgetOldest_5 : decode cX2_forgetOldest 5 = .ok (.aaload, 1) := by decide +kernel
theorem dX2_forgetOldest_6 : decode cX2_forgetOldest 6 = .ok (.astore_n 1, 1) := by decide +kernel
theorem dX2_forgetOldest_7 : decode cX2_forgetOldest 7 = .ok (.iconst 1, 1) := by decide +kernel
theorem dX2_forgetOldest_8 : decode cX2_forgetOldest 8 = .ok (.istore_n 2, 1) := by decide +kernel
theorem dX2_forgetOldest_9 : decode cX2_forgetOldest 9 = .ok (.iload_n 2, 1) := by decide +kernel
theorem dX2_forgetOldest_10 : decode cX2_forgetOldest 10 = .ok (.bipush 10, 2) := by decide +kernel
theorem dX2_forgetOldest_12 : decode cX2_forgetOldest 12 = .ok (.if_icmp .ge 23, 3) := by decide +kernel
theorem dX2_forgetOldest_15 : decode cX2_forgetOldest 15 = .ok (.aload_n 0, 1) := by decide +kernel
theorem dX2_forgetOldest_16 : decode cX2_forgetOldest 16 = .ok (.getfield 11, 3) := by decide +kernel
theorem dX2_forgetOldest_19 : decode cX2_forgetOldest 19 = .ok (.iload_n 2, 1) := by decide +kernel
theorem dX2_forgetOldest_20 : decode cX2_forgetOldest 20 = .ok (.iconst 1, 1) := by decide +kernel
theorem dX2_forgetOldest_21 : decode cX2_forgetOldest 21 = .ok (.isub, 1) := by decide +kernel
theorem dX2_forgetOldest_22 : decode cX2_forgetOldest 22 = .ok (.aload_n 0, 1) := by decide +kernel
theorem dX2_forgetOldest_23 : decode cX2_forgetOldest 23 = .ok (.getfield 11, 3) := by decide +kernel
theorem dX2_forgetOldest_26 : decode cX2_forgetOldest 26 = .ok (.iload_n 2, 1) := by decide +kernel
theorem dX2_forgetOldest_27 : decode cX2_forgetOldest 27 = .ok (.aaload, 1) := by decide +kernel
theorem dX2_forgetOldest_28 : decode cX2_forgetOldest 28 = .ok (.aastore, 1) := by decide +kernel
theorem dX2_forgetOldest_29 : decode cX2_forgetOldest 29 = .ok (.iinc 2 1, 3) := by decide +kernel
theorem dX2_forgetOldest_32 : decode cX2_forgetOldest 32 = .ok (.goto (-23), 3) := by decide +kernel
theorem dX2_forgetOldest_35 : decode cX2_forgetOldest 35 = .ok (.aload_n 0, 1) := by decide +kernel
theorem dX2_forgetOldest_36 : decode cX2_forgetOldest 36 = .ok (.getfield 11, 3) := by decide +kernel
theorem dX2_forgetOldest_39 : decode cX2_forgetOldest 39 = .ok (.bipush 9, 2) := by decide +kernel
theorem dX2_forgetOldest_41 : decode cX2_forgetOldest 41 = .ok (.aload_n 1, 1) := by decide +kernel
theorem dX2_forgetOldest_42 : decode cX2_forgetOldest 42 = .ok (.aastore, 1) := by decide +kernel
theorem dX2_forgetOldest_43 : decode cX2_forgetOldest 43 = .ok (.aload_n 0, 1) := by decide +kernel
theorem dX2_forgetOldest_44 : decode cX2_forgetOldest 44 = .ok (.bipush 9, 2) := by decide +kernel
theorem dX2_forgetOldest_46 : decode cX2_forgetOldest 46 = .ok (.putfield 27, 3) := by decide +kernel
theorem dX2_forgetOldest_49 : decode cX2_forgetOldest 49 = .ok (.return_, 1) := by decide +kernel
abbrev M_X2_forgetOldest : aM := (yX2_forgetOldest.cls, cX2_forgetOldest, 3, none, [], yX2_forgetOldest.name == "<init>")
abbrev J_X2_forgetOldest (l : Launch) (E : aE) (n0 m0 : Nat) := GG (fun (_ : Unit) => .inl none) l E M_X2_forgetOldest 0 0 n0 m0
theorem b_X2_forgetOldest {l : Launch} {E : aE} (hl : l.stackTraces = false) (n0 m0 : Nat) (x1 : Nat) (h0 : aH) : J_X2_forgetOldest l E n0 m0 0 [(0, .ref (e_z E + x1))] [] h0 (m_X2_forgetOldest x1 h0) := by
  unfold m_X2_forgetOldest
  refine g_aload_n (pc := 0) dX2_forgetOldest_0 0 rfl ?_
  refine g_getr (pc := 1) cl2 (Nat.le_of_ble_eq_true rfl) fk471 (fun _ _ _ => rfl) dX2_forgetOldest_1 (fun x2 => ?_)
  refine g_iconst (pc := 4) dX2_forgetOldest_4 ci_0 ?_
  refine g_aald (pc := 5) (t := 4) (Nat.le_of_ble_eq_true rfl) (Nat.le_of_ble_eq_true rfl) dX2_forgetOldest_5 (fun x3 => ?_)
  refine g_astore_n (pc := 6) (lv' := [(1, .ref (e_z E + x3)), (0, .ref (e_z E + x1))]) dX2_forgetOldest_6 (Nat.le_of_ble_eq_true rfl) rfl ?_
  refine g_iconst (pc := 7) dX2_forgetOldest_7 ci_1 ?_
  refine g_istore_n (pc := 8) (lv' := [(2, .int (1 : Int32)), (1, .ref (e_z E + x3)), (0, .ref (e_z E + x1))]) dX2_forgetOldest_8 (Nat.le_of_ble_eq_true rfl) rfl ?_
  refine g_join (fun k => ∀ (h1 : aH), J_X2_forgetOldest l E n0 m0 35 [(0, .ref (e_z E + x1)), (1, .ref (e_z E + x3))] [] h1 (k h1)) (fun h1 => ?_) (fun k35 hk35 => ?_)
  · refine g_aload_n (pc := 35) dX2_forgetOldest_35 0 rfl ?_
    refine g_getr (pc := 36) cl2 (Nat.le_of_ble_eq_true rfl) fk471 (fun _ _ _ => rfl) dX2_forgetOldest_36 (fun x4 => ?_)
    refine g_bipush (pc := 39) dX2_forgetOldest_39 cb_9 ?_
    refine g_aload_n (pc := 41) dX2_forgetOldest_41 1 rfl ?_
    refine g_aast (pc := 42) (t := 4) (c := 10) (Nat.le_of_ble_eq_true rfl) (Nat.le_of_ble_eq_true rfl) cl10 rfl dX2_forgetOldest_42 (fun h2 => ?_)
    refine g_aload_n (pc := 43) dX2_forgetOldest_43 0 rfl ?_
    refine g_bipush (pc := 44) dX2_forgetOldest_44 cb_9 ?_
    refine g_puti (pc := 46) cl2 (Nat.le_of_ble_eq_true rfl) (Or.inl ⟨rfl, fk469⟩) (fun _ _ _ => rfl) (fun _ => ⟨rfl, rfl⟩) dX2_forgetOldest_46 (fun h3 => ?_)
    exact g_ret (pc := 49) rfl isRet_v dX2_forgetOldest_49 rfl
  refine g_lv [2, 1, 0] rfl ?_
  refine g_loop1 (F := (m_X2_forgetOldest_L9 x1 k35)) (fun x5 => [(0, .ref (e_z E + x1)), (1, .ref (e_z E + x3)), (2, .int x5)]) (fun r9 hr9 x5 h4 => ?_) _ _ _
  unfold m_X2_forgetOldest_L9
  refine g_iload_n (pc := 9) dX2_forgetOldest_9 2 rfl ?_
  refine g_bipush (pc := 10) dX2_forgetOldest_10 cb_10 ?_
  refine g_icmpge (pc := 12) (tgt := 35) dX2_forgetOldest_12 rfl ?_ ?_
  · refine g_aload_n (pc := 15) dX2_forgetOldest_15 0 rfl ?_
    refine g_getr (pc := 16) cl2 (Nat.le_of_ble_eq_true rfl) fk471 (fun _ _ _ => rfl) dX2_forgetOldest_16 (fun x6 => ?_)
    refine g_iload_n (pc := 19) dX2_forgetOldest_19 2 rfl ?_
    refine g_iconst (pc := 20) dX2_forgetOldest_20 ci_1 ?_
    refine g_isub (pc := 21) dX2_forgetOldest_21 ?_
    refine g_aload_n (pc := 22) dX2_forgetOldest_22 0 rfl ?_
    refine g_getr (pc := 23) cl2 (Nat.le_of_ble_eq_true rfl) fk471 (fun _ _ _ => rfl) dX2_forgetOldest_23 (fun x7 => ?_)
    refine g_iload_n (pc := 26) dX2_forgetOldest_26 2 rfl ?_
    refine g_aald (pc := 27) (t := 4) (Nat.le_of_ble_eq_true rfl) (Nat.le_of_ble_eq_true rfl) dX2_forgetOldest_27 (fun x8 => ?_)
    refine g_aast (pc := 28) (t := 4) (c := 10) (Nat.le_of_ble_eq_true rfl) (Nat.le_of_ble_eq_true rfl) cl10 rfl dX2_forgetOldest_28 (fun h5 => ?_)
    refine g_iincN (pc := 29) dX2_forgetOldest_29 2 rfl ci_1 (Nat.le_of_ble_eq_true rfl) (fun x9 => ?_)
    refine g_lvr (lv' := [(2, .int x9), (0, .ref (e_z E + x1)), (1, .ref (e_z E + x3))]) rfl ?_
    refine g_goto (pc := 32) (tgt := 9) dX2_forgetOldest_32 rfl ?_
    refine g_lv [1, 2, 0] rfl ?_
    exact hr9 x9 h5
  · refine g_lv [0, 1] rfl ?_
    exact hk35 h4
theorem p_X2_forgetOldest {l : Launch} {E : aE} (hl : l.stackTraces = false) (x1 : Nat) (h0 : aH) : MO (fun (_ : Unit) => .inl none) l E yX2_forgetOldest (.code yX2_forgetOldest cX2_forgetOldest 3 none) 0 0 [.ref (e_z E + x1)] h0 (m_X2_forgetOldest x1 h0) := g_met hl (by decide +kernel) (Nat.le_of_ble_eq_true rfl) (b_X2_forgetOldest hl _ _ x1 h0)
theorem dX10_copyFrom_0 : decode cX10_copyFrom 0 = .ok (.aload_n 0, 1) := by decide +kernel
theorem dX10_copyFrom_1 : decode cX10_copyFrom 1 = .ok (.aload_n 1, 1) := by decide +kernel
theorem dX10_copyFrom_2 : decode cX10_copyFrom 2 = .ok (.getfield 52, 3) := by decide +kernel
theorem dX10_copyFrom_5 : decode cX10_copyFrom 5 = .ok (.putfield 52, 3) := by decide +kernel
theorem dX10_copyFrom_8 : decode cX10_copyFrom 8 = .ok (.aload_n 0, 1) := by decide +kernel
theorem dX10_copyFrom_9 : decode cX10_copyFrom 9 = .ok (.aload_n 1, 1) := by decide +kernel
theorem dX10_copyFrom_10 : decode cX10_copyFrom 10 = .ok (.getfield 56, 3) := by decide +kernel
theorem dX10_copyFrom_13 : decode cX10_copyFrom 13 = .ok (.putfield 56, 3) := by decide +kernel
theorem dX10_copyFrom_16 : decode cX10_copyFrom 16 = .ok (.aload_n 1, 1) := by decide +kernel
theorem dX10_copyFrom_17 : decode cX10_copyFrom 17 = .ok (.getfield 9, 3) := by decide +kernel
theorem dX10_copyFrom_20 : decode cX10_copyFrom 20 = .ok (.aload_n 0, 1) := by decide +kernel
theorem dX10_copyFrom_21 : decode cX10_copyFrom 21 = .ok (.getfield 9, 3) := by decide +kernel
theorem dX10_copyFrom_24 : decode cX10_copyFrom 24 = .ok (.invokestatic 103, 3) := by decide +kernel
theorem dX10_copyFrom_27 : decode cX10_copyFrom 27 = .ok (.aload_n 1, 1) := by decide +kernel
theorem dX10_copyFrom_28 : decode cX10_copyFrom 28 = .ok (.getfield 15, 3) := by decide +kernel
theorem dX10_copyFrom_31 : decode cX10_copyFrom 31 = .ok (.aload_n 0, 1) := by decide +kernel
theorem dX10_copyFrom_32 : decode cX10_copyFrom 32 = .ok (.getfield 15, 3) := by decide +kernel
theorem dX10_copyFrom_35 : decode cX10_copyFrom 35 = .ok (.invokestatic 103, 3) := by decide +kernel
theorem dX10_copyFrom_38 : decode cX10_copyFrom 38 = .ok (.aload_n 1, 1) := by decide +kernel
theorem dX10_copyFrom_39 : decode cX10_copyFrom 39 = .ok (.getfield 18, 3) := by decide +kernel
theorem dX10_copyFrom_42 : decode cX10_copyFrom 42 = .ok (.aload_n 0, 1) := by decide +kernel
theorem dX10_copyFrom_43 : decode cX10_copyFrom 43 = .ok (.getfield 18, 3) := by decide +kernel
theorem dX10_copyFrom_46 : decode cX10_copyFrom 46 = .ok (.invokestatic 103, 3) := by decide +kernel
theorem dX10_copyFrom_49 : decode cX10_copyFrom 49 = .ok (.aload_n 0, 1) := by decide +kernel
theorem dX10_copyFrom_50 : decode cX10_copyFrom 50 = .ok (.aload_n 1, 1) := by decide +kernel
theorem dX10_copyFrom_51 : decode cX10_copyFrom 51 = .ok (.getfield 66, 3) := by decide +kernel
theorem dX10_copyFrom_54 : decode cX10_copyFrom 54 = .ok (.putfield 66, 3) := by decide +kernel
theorem dX10_copyFrom_57 : decode cX10_copyFrom 57 = .ok (.aload_n 1, 1) := by decide +kernel
theorem dX10_copyFrom_58 : decode cX10_copyFrom 58 = .ok (.getfield 21, 3) := by decide +kernel
theorem dX10_copyFrom_61 : decode cX10_copyFrom 61 = .ok (.aload_n 0, 1) := by decide +kernel
theorem dX10_copyFrom_62 : decode cX10_copyFrom 62 = .ok (.getfield 21, 3) := by decide +kernel
theorem dX10_copyFrom_65 : decode cX10_copyFrom 65 = .ok (.invokestatic 103, 3) := by decide +kernel
theorem dX10_copyFrom_68 : decode cX10_copyFrom 68 = .ok (.aload_n 1, 1) := by decide +kernel
theorem dX10_copyFrom_69 : decode cX10_copyFrom 69 = .ok (.getfield 24, 3) := by decide +kernel
theorem dX10_copyFrom_72 : decode cX10_copyFrom 72 = .ok (.aload_n 0, 1) := by decide +kernel
theorem dX10_copyFrom_73 : decode cX10_copyFrom 73 = .ok (.getfield 24, 3) := by decide +kernel
theorem dX10_copyFrom_76 : decode cX10_copyFrom 76 = .ok (.invokestatic 103, 3) := by decide +kernel
theorem dX10_copyFrom_79 : decode cX10_copyFrom 79 = .ok (.aload_n 1, 1) := by decide +kernel
theorem dX10_copyFrom_80 : decode cX10_copyFrom 80 = .ok (.getfield 27, 3) := by decide +kernel
theorem dX10_copyFrom_83 : decode cX10_copyFrom 83 = .ok (.aload_n 0, 1) := by decide +kernel
theorem dX10_copyFrom_84 : decode cX10_copyFrom 84 = .ok (.getfield 27, 3) := by decide +kernel
theorem dX10_copyFrom_87 : decode cX10_copyFrom 87 = .ok (.invokestatic 103, 3) := by decide +kernel
theorem dX10_copyFrom_90 : decode cX10_copyFrom 90 = .ok (.aload_n 1, 1) := by decide +kernel
theorem dX10_copyFrom_91 : decode cX10_copyFrom 91 = .ok (.getfield 30, 3) := by decide +kernel
theorem dX10_copyFrom_94 : decode cX10_copyFrom 94 = .ok (.aload_n 0, 1) := by decide +kernel
theorem dX10_copyFrom_95 : decode cX10_copyFrom 95 = .ok (.getfield 30, 3) := by decide +kernel
theorem dX10_copyFrom_98 : decode cX10_copyFrom 98 = .ok (.invokestatic 103, 3) := by decide +kernel
theorem dX10_copyFrom_101 : decode cX10_copyFrom 101 = .ok (.aload_n 1, 1) := by decide +kernel
theorem dX10_copyFrom_102 : decode cX10_copyFrom 102 = .ok (.getfield 33, 3) := by decide +kernel
theorem dX10_copyFrom_105 : decode cX10_copyFrom 105 = .ok (.aload_n 0, 1) := by decide +kernel
theorem dX10_copyFrom_106 : decode cX10_copyFrom 106 = .ok (.getfield 33, 3) := by decide +kernel
theorem dX10_copyFrom_109 : decode cX10_copyFrom 109 = .ok (.invokestatic 103, 3) := by decide +kernel
theorem dX10_copyFrom_112 : decode cX10_copyFrom 112 = .ok (.aload_n 1, 1) := by decide +kernel
theorem dX10_copyFrom_113 : decode cX10_copyFrom 113 = .ok (.getfield 36, 3) := by decide +kernel
theorem dX10_copyFrom_116 : decode cX10_copyFrom 116 = .ok (.aload_n 0, 1) := by decide +kernel
theorem dX10_copyFrom_117 : decode cX10_copyFrom 117 = .ok (.getfield 36, 3) := by decide +kernel
theorem dX10_copyFrom_120 : decode cX10_copyFrom 120 = .ok (.invokestatic 103, 3) := by decide +kernel
theorem dX10_copyFrom_123 : decode cX10_copyFrom 123 = .ok (.aload_n 1, 1) := by decide +kernel
theorem dX10_copyFrom_124 : decode cX10_copyFrom 124 = .ok (.getfield 39, 3) := by decide +kernel
theorem dX10_copyFrom_127 : decode cX10_copyFrom 127 = .ok (.aload_n 0, 1) := by decide +kernel
theorem dX10_copyFrom_128 : decode cX10_copyFrom 128 = .ok (.getfield 39, 3) := by decide +kernel
theorem dX10_copyFrom_131 : decode cX10_copyFrom 131 = .ok (.invokestatic 103, 3) := by decide +kernel
theorem dX10_copyFrom_134 : decode cX10_copyFrom 134 = .ok (.aload_n 0, 1) := by decide +kernel
theorem dX10_copyFrom_135 : decode cX10_copyFrom 135 = .ok (.aload_n 1, 1) := by decide +kernel
theorem dX10_copyFrom_136 : decode cX10_copyFrom 136 = .ok (.getfield 97, 3) := by decide +kernel
theorem dX10_copyFrom_139 : decode cX10_copyFrom 139 = .ok (.putfield 97, 3) := by decide +kernel
theorem dX10_copyFrom_142 : decode cX10_copyFrom 142 = .ok (.aload_n 0, 1) := by decide +kernel
theorem dX10_copyFrom_143 : decode cX10_copyFrom 143 = .ok (.getfield 45, 3) := by decide +kernel
theorem dX10_copyFrom_146 : decode cX10_copyFrom 146 = .ok (.aload_n 1, 1) := by decide +kernel
theorem dX10_copyFrom_147 : decode cX10_copyFrom 147 = .ok (.getfield 45, 3) := by decide +kernel
theorem dX10_copyFrom_150 : decode cX10_copyFrom 150 = .ok (.invokevirtual 107, 3) := by decide +kernel
theorem dX10_copyFrom_153 : decode cX10_copyFrom 153 = .ok (.return_, 1) := by decide +kernel
abbrev M_X10_copyFrom : aM := (yX10_copyFrom.cls, cX10_copyFrom, 2, none, [], yX10_copyFrom.name == "<init>")
abbrev J_X10_copyFrom (l : Launch) (E : aE) (n0 m0 : Nat) := GG (fun (_ : Unit) => .inl none) l E M_X10_copyFrom 3 72 n0 m0
theorem b_X10_copyFrom {l : Launch} {E : aE} (hl : l.stackTraces = false) (n0 m0 : Nat) (x1 : Nat) (x2 : Nat) (h0 : aH) : J_X10_copyFrom l E n0 m0 0 [(0, .ref (e_z E + x1)), (1, .ref (e_z E + x2))] [] h0 (m_X10_copyFrom x1 x2 h0) := by
  unfold m_X10_copyFrom
  refine g_aload_n (pc := 0) dX10_copyFrom_0 0 rfl ?_
  refine g_aload_n (pc := 1) dX10_copyFrom_1 1 rfl ?_
  refine g_getr (pc := 2) cl10 (Nat.le_of_ble_eq_true rfl) fk348 (fun _ _ _ => rfl) dX10_copyFrom_2 (fun x3 => ?_)
  refine g_putr (pc := 5) cl10 (Nat.le_of_ble_eq_true rfl) (Or.inl ⟨rfl, fk348⟩) (fun _ _ _ => rfl) (fun _ => ⟨rfl, rfl⟩) dX10_copyFrom_5 (fun h1 => ?_)
  refine g_aload_n (pc := 8) dX10_copyFrom_8 0 rfl ?_
  refine g_aload_n (pc := 9) dX10_copyFrom_9 1 rfl ?_
  refine g_geti (pc := 10) cl10 (Nat.le_of_ble_eq_true rfl) fk349 (fun _ _ _ => rfl) dX10_copyFrom_10 (fun x4 => ?_)
  refine g_puti (pc := 13) cl10 (Nat.le_of_ble_eq_true rfl) (Or.inl ⟨rfl, fk349⟩) (fun _ _ _ => rfl) (fun _ => ⟨rfl, rfl⟩) dX10_copyFrom_13 (fun h2 => ?_)
  refine g_aload_n (pc := 16) dX10_copyFrom_16 1 rfl ?_
  refine g_getr (pc := 17) cl10 (Nat.le_of_ble_eq_true rfl) fk352 (fun _ _ _ => rfl) dX10_copyFrom_17 (fun x5 => ?_)
  refine g_aload_n (pc := 20) dX10_copyFrom_20 0 rfl ?_
  refine g_getr (pc := 21) cl10 (Nat.le_of_ble_eq_true rfl) fk352 (fun _ _ _ => rfl) dX10_copyFrom_21 (fun x6 => ?_)
  refine g_bRv (pc := 24) (c_SN (p_X11_copyAll hl x5 x6 h2) y_X11_copyAll tw1356 dX10_copyFrom_24 rfl (st := []) rfl (Nat.le_of_ble_eq_true rfl) (Nat.le_of_ble_eq_true rfl) (Nat.le_of_ble_eq_true rfl)) (fun _ h3 => ?_)
  refine g_aload_n (pc := 27) dX10_copyFrom_27 1 rfl ?_
  refine g_getr (pc := 28) cl10 (Nat.le_of_ble_eq_true rfl) fk354 (fun _ _ _ => rfl) dX10_copyFrom_28 (fun x7 => ?_)
  refine g_aload_n (pc := 31) dX10_copyFrom_31 0 rfl ?_
  refine g_getr (pc := 32) cl10 (Nat.le_of_ble_eq_true rfl) fk354 (fun _ _ _ => rfl) dX10_copyFrom_32 (fun x8 => ?_)
  refine g_bRv (pc := 35) (c_SN (p_X11_copyAll hl x7 x8 h3) y_X11_copyAll tw1356 dX10_copyFrom_35 rfl (st := []) rfl (Nat.le_of_ble_eq_true rfl) (Nat.le_of_ble_eq_true rfl) (Nat.le_of_ble_eq_true rfl)) (fun _ h4 => ?_)
  refine g_aload_n (pc := 38) dX10_copyFrom_38 1 rfl ?_
  refine g_getr (pc := 39) cl10 (Nat.le_of_ble_eq_true rfl) fk356 (fun _ _ _ => rfl) dX10_copyFrom_39 (fun x9 => ?_)
  refine g_aload_n (pc := 42) dX10_copyFrom_42 0 rfl ?_
  refine g_getr (pc := 43) cl10 (Nat.le_of_ble_eq_true rfl) fk356 (fun _ _ _ => rfl) dX10_copyFrom_43 (fun x10 => ?_)
  refine g_bRv (pc := 46) (c_SN (p_X11_copyAll hl x9 x10 h4) y_X11_copyAll tw1356 dX10_copyFrom_46 rfl (st := []) rfl (Nat.le_of_ble_eq_true rfl) (Nat.le_of_ble_eq_true rfl) (Nat.le_of_ble_eq_true rfl)) (fun _ h5 => ?_)
  refine g_aload_n (pc := 49) dX10_copyFrom_49 0 rfl ?_
  refine g_aload_n (pc := 50) dX10_copyFrom_50 1 rfl ?_
  refine g_geti (pc := 51) cl10 (Nat.le_of_ble_eq_true rfl) fk358 (fun _ _ _ => rfl) dX10_copyFrom_51 (fun x11 => ?_)
  refine g_puti (pc := 54) cl10 (Nat.le_of_ble_eq_true rfl) (Or.inl ⟨rfl, fk358⟩) (fun _ _ _ => rfl) (fun _ => ⟨rfl, rfl⟩) dX10_copyFrom_54 (fun h6 => ?_)
  refine g_aload_n (pc := 57) dX10_copyFrom_57 1 rfl ?_
  refine g_getr (pc := 58) cl10 (Nat.le_of_ble_eq_true rfl) fk361 (fun _ _ _ => rfl) dX10_copyFrom_58 (fun x12 => ?_)
  refine g_aload_n (pc := 61) dX10_copyFrom_61 0 rfl ?_
  refine g_getr (pc := 62) cl10 (Nat.le_of_ble_eq_true rfl) fk361 (fun _ _ _ => rfl) dX10_copyFrom_62 (fun x13 => ?_)
  refine g_bRv (pc := 65) (c_SN (p_X11_copyAll hl x12 x13 h6) y_X11_copyAll tw1356 dX10_copyFrom_65 rfl (st := []) rfl (Nat.le_of_ble_eq_true rfl) (Nat.le_of_ble_eq_true rfl) (Nat.le_of_ble_eq_true rfl)) (fun _ h7 => ?_)
  refine g_aload_n (pc := 68) dX10_copyFrom_68 1 rfl ?_
  refine g_getr (pc := 69) cl10 (Nat.le_of_ble_eq_true rfl) fk363 (fun _ _ _ => rfl) dX10_copyFrom_69 (fun x14 => ?_)
  refine g_aload_n (pc := 72) dX10_copyFrom_72 0 rfl ?_
  refine g_getr (pc := 73) cl10 (Nat.le_of_ble_eq_true rfl) fk363 (fun _ _ _ => rfl) dX10_copyFrom_73 (fun x15 => ?_)
  refine g_bRv (pc := 76) (c_SN (p_X11_copyAll hl x14 x15 h7) y_X11_copyAll tw1356 dX10_copyFrom_76 rfl (st := []) rfl (Nat.le_of_ble_eq_true rfl) (Nat.le_of_ble_eq_true rfl) (Nat.le_of_ble_eq_true rfl)) (fun _ h8 => ?_)
  refine g_aload_n (pc := 79) dX10_copyFrom_79 1 rfl ?_
  refine g_getr (pc := 80) cl10 (Nat.le_of_ble_eq_true rfl) fk365 (fun _ _ _ => rfl) dX10_copyFrom_80 (fun x16 => ?_)
  refine g_aload_n (pc := 83) dX10_copyFrom_83 0 rfl ?_
  refine g_getr (pc := 84) cl10 (Nat.le_of_ble_eq_true rfl) fk365 (fun _ _ _ => rfl) dX10_copyFrom_84 (fun x17 => ?_)
  refine g_bRv (pc := 87) (c_SN (p_X11_copyAll hl x16 x17 h8) y_X11_copyAll tw1356 dX10_copyFrom_87 rfl (st := []) rfl (Nat.le_of_ble_eq_true rfl) (Nat.le_of_ble_eq_true rfl) (Nat.le_of_ble_eq_true rfl)) (fun _ h9 => ?_)
  refine g_aload_n (pc := 90) dX10_copyFrom_90 1 rfl ?_
  refine g_getr (pc := 91) cl10 (Nat.le_of_ble_eq_true rfl) fk368 (fun _ _ _ => rfl) dX10_copyFrom_91 (fun x18 => ?_)
  refine g_aload_n (pc := 94) dX10_copyFrom_94 0 rfl ?_
  refine g_getr (pc := 95) cl10 (Nat.le_of_ble_eq_true rfl) fk368 (fun _ _ _ => rfl) dX10_copyFrom_95 (fun x19 => ?_)
  refine g_bRv (pc := 98) (c_SN (p_X11_copyAll hl x18 x19 h9) y_X11_copyAll tw1356 dX10_copyFrom_98 rfl (st := []) rfl (Nat.le_of_ble_eq_true rfl) (Nat.le_of_ble_eq_true rfl) (Nat.le_of_ble_eq_true rfl)) (fun _ h10 => ?_)
  refine g_aload_n (pc := 101) dX10_copyFrom_101 1 rfl ?_
  refine g_getr (pc := 102) cl10 (Nat.le_of_ble_eq_true rfl) fk369 (fun _ _ _ => rfl) dX10_copyFrom_102 (fun x20 => ?_)
  refine g_aload_n (pc := 105) dX10_copyFrom_105 0 rfl ?_
  refine g_getr (pc := 106) cl10 (Nat.le_of_ble_eq_true rfl) fk369 (fun _ _ _ => rfl) dX10_copyFrom_106 (fun x21 => ?_)
  refine g_bRv (pc := 109) (c_SN (p_X11_copyAll hl x20 x21 h10) y_X11_copyAll tw1356 dX10_copyFrom_109 rfl (st := []) rfl (Nat.le_of_ble_eq_true rfl) (Nat.le_of_ble_eq_true rfl) (Nat.le_of_ble_eq_true rfl)) (fun _ h11 => ?_)
  refine g_aload_n (pc := 112) dX10_copyFrom_112 1 rfl ?_
  refine g_getr (pc := 113) cl10 (Nat.le_of_ble_eq_true rfl) fk370 (fun _ _ _ => rfl) dX10_copyFrom_113 (fun x22 => ?_)
  refine g_aload_n (pc := 116) dX10_copyFrom_116 0 rfl ?_
  refine g_getr (pc := 117) cl10 (Nat.le_of_ble_eq_true rfl) fk370 (fun _ _ _ => rfl) dX10_copyFrom_117 (fun x23 => ?_)
  refine g_bRv (pc := 120) (c_SN (p_X11_copyAll hl x22 x23 h11) y_X11_copyAll tw1356 dX10_copyFrom_120 rfl (st := []) rfl (Nat.le_of_ble_eq_true rfl) (Nat.le_of_ble_eq_true rfl) (Nat.le_of_ble_eq_true rfl)) (fun _ h12 => ?_)
  refine g_aload_n (pc := 123) dX10_copyFrom_123 1 rfl ?_
  refine g_getr (pc := 124) cl10 (Nat.le_of_ble_eq_true rfl) fk373 (fun _ _ _ => rfl) dX10_copyFrom_124 (fun x24 => ?_)
  refine g_aload_n (pc := 127) dX10_copyFrom_127 0 rfl ?_
  refine g_getr (pc := 128) cl10 (Nat.le_of_ble_eq_true rfl) fk373 (fun _ _ _ => rfl) dX10_copyFrom_128 (fun x25 => ?_)
  refine g_bRv (pc := 131) (c_SN (p_X11_copyAll hl x24 x25 h12) y_X11_copyAll tw1356 dX10_copyFrom_131 rfl (st := []) rfl (Nat.le_of_ble_eq_true rfl) (Nat.le_of_ble_eq_true rfl) (Nat.le_of_ble_eq_true rfl)) (fun _ h13 => ?_)
  refine g_aload_n (pc := 134) dX10_copyFrom_134 0 rfl ?_
  refine g_aload_n (pc := 135) dX10_copyFrom_135 1 rfl ?_
  refine g_geti (pc := 136) cl10 (Nat.le_of_ble_eq_true rfl) fk375 (fun _ _ _ => rfl) dX10_copyFrom_136 (fun x26 => ?_)
  refine g_puti (pc := 139) cl10 (Nat.le_of_ble_eq_true rfl) (Or.inl ⟨rfl, fk375⟩) (fun _ _ _ => rfl) (fun _ => ⟨rfl, rfl⟩) dX10_copyFrom_139 (fun h14 => ?_)
  refine g_aload_n (pc := 142) dX10_copyFrom_142 0 rfl ?_
  refine g_getr (pc := 143) cl10 (Nat.le_of_ble_eq_true rfl) fk378 (fun _ _ _ => rfl) dX10_copyFrom_143 (fun x27 => ?_)
  refine g_aload_n (pc := 146) dX10_copyFrom_146 1 rfl ?_
  refine g_getr (pc := 147) cl10 (Nat.le_of_ble_eq_true rfl) fk378 (fun _ _ _ => rfl) dX10_copyFrom_147 (fun x28 => ?_)
  refine g_gS (fun hs => ?_)
  refine g_bRv (pc := 150) (c_VN cl0 hs (p_X0_copyFrom hl x27 x28 h14) y_X0_copyFrom tw1357 dX10_copyFrom_150 rfl (st := []) rfl (Nat.le_of_ble_eq_true rfl) (Nat.le_of_ble_eq_true rfl) (Nat.le_of_ble_eq_true rfl)) (fun _ h15 => ?_)
  exact g_ret (pc := 153) rfl isRet_v dX10_copyFrom_153 rfl
theorem p_X10_copyFrom {l : Launch} {E : aE} (hl : l.stackTraces = false) (x1 : Nat) (x2 : Nat) (h0 : aH) : MO (fun (_ : Unit) => .inl none) l E yX10_copyFrom (.code yX10_copyFrom cX10_copyFrom 2 none) 3 72 [.ref (e_z E + x1), .ref (e_z E + x2)] h0 (m_X10_copyFrom x1 x2 h0) := g_met hl (by decide +kernel) (Nat.le_of_ble_eq_true rfl) (b_X10_copyFrom hl _ _ x1 x2 h0)
theorem dX2_keep_0 : decode cX2_keep 0 = .ok (.aload_n 0, 1) := by decide +kernel
theorem dX2_keep_1 : decode cX2_keep 1 = .ok (.getfield 27, 3) := by decide +kernel
theorem dX2_keep_4 : decode cX2_keep 4 = .ok (.bipush 10, 2) := by decide +kernel
theorem dX2_keep_6 : decode cX2_keep 6 = .ok (.if_icmp .lt 7, 3) := by decide +kernel
theorem dX2_keep_9 : decode cX2_keep 9 = .ok (.aload_n 0, 1) := by decide +kernel
theorem dX2_keep_10 : decode cX2_keep 10 = .ok (.invokevirtual 31, 3) := by decide +kernel
theorem dX2_keep_13 : decode cX2_keep 13 = .ok (.aload_n 0, 1) := by decide +kernel
theorem dX2_keep_14 : decode cX2_keep 14 = .ok (.getfield 11, 3) := by decide +kernel
theorem dX2_keep_17 : decode cX2_keep 17 = .ok (.aload_n 0, 1) := by decide +kernel
theorem dX2_keep_18 : decode cX2_keep 18 = .ok (.getfield 27, 3) := by decide +kernel
theorem dX2_keep_21 : decode cX2_keep 21 = .ok (.aaload, 1) := by decide +kernel
theorem dX2_keep_22 : decode cX2_keep 22 = .ok (.aload_n 1, 1) := by decide +kernel
theorem dX2_keep_23 : decode cX2_keep 23 = .ok (.invokevirtual 34, 3) := by decide +kernel
theorem dX2_keep_26 : decode cX2_keep 26 = .ok (.aload_n 0, 1) := by decide +kernel
theorem dX2_keep_27 : decode cX2_keep 27 = .ok (.dup, 1) := by decide +kernel
theorem dX2_keep_28 : decode cX2_keep 28 = .ok (.getfield 27, 3) := by decide +kernel
theorem dX2_keep_31 : decode cX2_keep 31 = .ok (.iconst 1, 1) := by decide +kernel
theorem dX2_keep_32 : decode cX2_keep 32 = .ok (.iadd, 1) := by decide +kernel
theorem dX2_keep_33 : decode cX2_keep 33 = .ok (.putfield 27, 3) := by decide +kernel
theorem dX2_keep_36 : decode cX2_keep 36 = .ok (.return_, 1) := by decide +kernel
abbrev M_X2_keep : aM := (yX2_keep.cls, cX2_keep, 2, none, [], yX2_keep.name == "<init>")
abbrev J_X2_keep (l : Launch) (E : aE) (n0 m0 : Nat) := GG (fun (_ : Unit) => .inl none) l E M_X2_keep 4 93 n0 m0
theorem b_X2_keep {l : Launch} {E : aE} (hl : l.stackTraces = false) (n0 m0 : Nat) (x1 : Nat) (x2 : Nat) (h0 : aH) : J_X2_keep l E n0 m0 0 [(0, .ref (e_z E + x1)), (1, .ref (e_z E + x2))] [] h0 (m_X2_keep x1 x2 h0) := by
  unfold m_X2_keep
  refine g_aload_n (pc := 0) dX2_keep_0 0 rfl ?_
  refine g_geti (pc := 1) cl2 (Nat.le_of_ble_eq_true rfl) fk469 (fun _ _ _ => rfl) dX2_keep_1 (fun x3 => ?_)
  refine g_bipush (pc := 4) dX2_keep_4 cb_10 ?_
  refine g_join (fun k => ∀ (h1 : aH), J_X2_keep l E n0 m0 13 [(0, .ref (e_z E + x1)), (1, .ref (e_z E + x2))] [] h1 (k h1)) (fun h1 => ?_) (fun k13 hk13 => ?_)
  · refine g_aload_n (pc := 13) dX2_keep_13 0 rfl ?_
    refine g_getr (pc := 14) cl2 (Nat.le_of_ble_eq_true rfl) fk471 (fun _ _ _ => rfl) dX2_keep_14 (fun x4 => ?_)
    refine g_aload_n (pc := 17) dX2_keep_17 0 rfl ?_
    refine g_geti (pc := 18) cl2 (Nat.le_of_ble_eq_true rfl) fk469 (fun _ _ _ => rfl) dX2_keep_18 (fun x5 => ?_)
    refine g_aald (pc := 21) (t := 4) (Nat.le_of_ble_eq_true rfl) (Nat.le_of_ble_eq_true rfl) dX2_keep_21 (fun x6 => ?_)
    refine g_aload_n (pc := 22) dX2_keep_22 1 rfl ?_
    refine g_gS (fun hs => ?_)
    refine g_bRv (pc := 23) (c_VN cl10 hs (p_X10_copyFrom hl x6 x2 h1) y_X10_copyFrom tw1420 dX2_keep_23 rfl (st := []) rfl (Nat.le_of_ble_eq_true rfl) (Nat.le_of_ble_eq_true rfl) (Nat.le_of_ble_eq_true rfl)) (fun _ h2 => ?_)
    refine g_aload_n (pc := 26) dX2_keep_26 0 rfl ?_
    refine g_dup (pc := 27) rfl dX2_keep_27 ?_
    refine g_geti (pc := 28) cl2 (Nat.le_of_ble_eq_true rfl) fk469 (fun _ _ _ => rfl) dX2_keep_28 (fun x7 => ?_)
    refine g_iconst (pc := 31) dX2_keep_31 ci_1 ?_
    refine g_iadd (pc := 32) dX2_keep_32 ?_
    refine g_puti (pc := 33) cl2 (Nat.le_of_ble_eq_true rfl) (Or.inl ⟨rfl, fk469⟩) (fun _ _ _ => rfl) (fun _ => ⟨rfl, rfl⟩) dX2_keep_33 (fun h3 => ?_)
    exact g_ret (pc := 36) rfl isRet_v dX2_keep_36 rfl
  refine g_icmplt (pc := 6) (tgt := 13) dX2_keep_6 rfl ?_ ?_
  · exact hk13 h0
  · refine g_aload_n (pc := 9) dX2_keep_9 0 rfl ?_
    refine g_gS (fun hs => ?_)
    refine g_bRv (pc := 10) (c_V cl2 hs (p_X2_forgetOldest hl x1 h0) y_X2_forgetOldest tw1416 dX2_keep_10 rfl (st := []) rfl (Nat.le_of_ble_eq_true rfl) (Nat.le_of_ble_eq_true rfl) (Nat.le_of_ble_eq_true rfl)) (fun _ h4 => ?_)
    exact hk13 h4
theorem p_X2_keep {l : Launch} {E : aE} (hl : l.stackTraces = false) (x1 : Nat) (x2 : Nat) (h0 : aH) : MO (fun (_ : Unit) => .inl none) l E yX2_keep (.code yX2_keep cX2_keep 2 none) 4 93 [.ref (e_z E + x1), .ref (e_z E + x2)] h0 (m_X2_keep x1 x2 h0) := g_met hl (by decide +kernel) (Nat.le_of_ble_eq_true rfl) (b_X2_keep hl _ _ x1 x2 h0)
theorem dX2_takeBack_0 : decode cX2_takeBack 0 = .ok (.aload_n 0, 1) := by decide +kernel
theorem dX2_takeBack_1 : decode cX2_takeBack 1 = .ok (.getfield 27, 3) := by decide +kernel
theorem dX2_takeBack_4 : decode cX2_takeBack 4 = .ok (.ifCond .le 26, 3) := by decide +kernel
theorem dX2_takeBack_7 : decode cX2_takeBack 7 = .ok (.aload_n 0, 1) := by decide +kernel
theorem dX2_takeBack_8 : decode cX2_takeBack 8 = .ok (.dup, 1) := by decide +kernel
theorem dX2_takeBack_9 : decode cX2_takeBack 9 = .ok (.getfield 27, 3) := by decide +kernel
theorem dX2_takeBack_12 : decode cX2_takeBack 12 = .ok (.iconst 1, 1) := by decide +kernel
theorem dX2_takeBack_13 : decode cX2_takeBack 13 = .ok (.isub, 1) := by decide +kernel
theorem dX2_takeBack_14 : decode cX2_takeBack 14 = .ok (.putfield 27, 3) := by decide +kernel
theorem dX2_takeBack_17 : decode cX2_takeBack 17 = .ok (.aload_n 1, 1) := by decide +kernel
theorem dX2_takeBack_18 : decode cX2_takeBack 18 = .ok (.aload_n 0, 1) := by decide +kernel
theorem dX2_takeBack_19 : decode cX2_takeBack 19 = .ok (.getfield 11, 3) := by decide +kernel
theorem dX2_takeBack_22 : decode cX2_takeBack 22 = .ok (.aload_n 0, 1) := by decide +kernel
theorem dX2_takeBack_23 : decode cX2_takeBack 23 = .ok (.getfield 27, 3) := by decide +kernel
theorem dX2_takeBack_26 : decode cX2_takeBack 26 = .ok (.aaload, 1) := by decide +kernel
theorem dX2_takeBack_27 : decode cX2_takeBack 27 = .ok (.invokevirtual 34, 3) := by decide +kernel
theorem dX2_takeBack_30 : decode cX2_takeBack 30 = .ok (.return_, 1) := by decide +kernel
abbrev M_X2_takeBack : aM := (yX2_takeBack.cls, cX2_takeBack, 2, none, [], yX2_takeBack.name == "<init>")
abbrev J_X2_takeBack (l : Launch) (E : aE) (n0 m0 : Nat) := GG (fun (_ : Unit) => .inl none) l E M_X2_takeBack 4 93 n0 m0
theorem b_X2_takeBack {l : Launch} {E : aE} (hl : l.stackTraces = false) (n0 m0 : Nat) (x1 : Nat) (x2 : Nat) (h0 : aH) : J_X2_takeBack l E n0 m0 0 [(0, .ref (e_z E + x1)), (1, .ref (e_z E + x2))] [] h0 (m_X2_takeBack x1 x2 h0) := by
  unfold m_X2_takeBack
  refine g_aload_n (pc := 0) dX2_takeBack_0 0 rfl ?_
  refine g_geti (pc := 1) cl2 (Nat.le_of_ble_eq_true rfl) fk469 (fun _ _ _ => rfl) dX2_takeBack_1 (fun x3 => ?_)
  refine g_join (fun k => ∀ (h1 : aH), J_X2_takeBack l E n0 m0 30 [] [] h1 (k h1)) (fun h1 => ?_) (fun k30 hk30 => ?_)
  · exact g_ret (pc := 30) rfl isRet_v dX2_takeBack_30 rfl
  refine g_ifle (pc := 4) (tgt := 30) dX2_takeBack_4 rfl ?_ ?_
  · refine g_lv [] rfl ?_
    exact hk30 h0
  · refine g_aload_n (pc := 7) dX2_takeBack_7 0 rfl ?_
    refine g_dup (pc := 8) rfl dX2_takeBack_8 ?_
    refine g_geti (pc := 9) cl2 (Nat.le_of_ble_eq_true rfl) fk469 (fun _ _ _ => rfl) dX2_takeBack_9 (fun x4 => ?_)
    refine g_iconst (pc := 12) dX2_takeBack_12 ci_1 ?_
    refine g_isub (pc := 13) dX2_takeBack_13 ?_
    refine g_puti (pc := 14) cl2 (Nat.le_of_ble_eq_true rfl) (Or.inl ⟨rfl, fk469⟩) (fun _ _ _ => rfl) (fun _ => ⟨rfl, rfl⟩) dX2_takeBack_14 (fun h2 => ?_)
    refine g_aload_n (pc := 17) dX2_takeBack_17 1 rfl ?_
    refine g_aload_n (pc := 18) dX2_takeBack_18 0 rfl ?_
    refine g_getr (pc := 19) cl2 (Nat.le_of_ble_eq_true rfl) fk471 (fun _ _ _ => rfl) dX2_takeBack_19 (fun x5 => ?_)
    refine g_aload_n (pc := 22) dX2_takeBack_22 0 rfl ?_
    refine g_geti (pc := 23) cl2 (Nat.le_of_ble_eq_true rfl) fk469 (fun _ _ _ => rfl) dX2_takeBack_23 (fun x6 => ?_)
    refine g_aald (pc := 26) (t := 4) (Nat.le_of_ble_eq_true rfl) (Nat.le_of_ble_eq_true rfl) dX2_takeBack_26 (fun x7 => ?_)
    refine g_gS (fun hs => ?_)
    refine g_bRv (pc := 27) (c_VN cl10 hs (p_X10_copyFrom hl x2 x7 h2) y_X10_copyFrom tw1420 dX2_takeBack_27 rfl (st := []) rfl (Nat.le_of_ble_eq_true rfl) (Nat.le_of_ble_eq_true rfl) (Nat.le_of_ble_eq_true rfl)) (fun _ h3 => ?_)
    refine g_lv [] rfl ?_
    exact hk30 h3
theorem p_X2_takeBack {l : Launch} {E : aE} (hl : l.stackTraces = false) (x1 : Nat) (x2 : Nat) (h0 : aH) : MO (fun (_ : Unit) => .inl none) l E yX2_takeBack (.code yX2_takeBack cX2_takeBack 2 none) 4 93 [.ref (e_z E + x1), .ref (e_z E + x2)] h0 (m_X2_takeBack x1 x2 h0) := g_met hl (by decide +kernel) (Nat.le_of_ble_eq_true rfl) (b_X2_takeBack hl _ _ x1 x2 h0)
theorem dX3_init_0 : decode cX3_init 0 = .ok (.aload_n 0, 1) := by decide +kernel
theorem dX3_init_1 : decode cX3_init 1 = .ok (.invokespecial 3, 3) := by decide +kernel
theorem dX3_init_4 : decode cX3_init 4 = .ok (.aload_n 0, 1) := by decide +kernel
theorem dX3_init_5 : decode cX3_init 5 = .ok (.bipush 6, 2) := by decide +kernel
theorem dX3_init_7 : decode cX3_init 7 = .ok (.newarray .int, 2) := by decide +kernel
theorem dX3_init_9 : decode cX3_init 9 = .ok (.putfield 9, 3) := by decide +kernel
theorem dX3_init_12 : decode cX3_init 12 = .ok (.aload_n 0, 1) := by decide +kernel
theorem dX3_init_13 : decode cX3_init 13 = .ok (.iconst 5, 1) := by decide +kernel
theorem dX3_init_14 : decode cX3_init 14 = .ok (.newarray .int, 2) := by decide +kernel
theorem dX3_init_16 : decode cX3_init 16 = .ok (.putfield 15, 3) := by decide +kernel
theorem dX3_init_19 : decode cX3_init 19 = .ok (.return_, 1) := by decide +kernel
abbrev M_X3_init : aM := (yX3_init.cls, cX3_init, 1, none, [], yX3_init.name == "<init>")
abbrev J_X3_init (l : Launch) (E : aE) (n0 m0 : Nat) := GG (fun (_ : Unit) => .inl none) l E M_X3_init 1 30 n0 m0
theorem b_X3_init {l : Launch} {E : aE} (hl : l.stackTraces = false) (n0 m0 : Nat) (x1 : Nat) (h0 : aH) : J_X3_init l E n0 m0 0 [(0, .ref (e_z E + x1))] [] h0 (m_X3_init x1 h0) := by
  unfold m_X3_init
  refine g_aload_n (pc := 0) dX3_init_0 0 rfl ?_
  refine g_objInit (pc := 1) tw196 tw35 tw36 (Nat.le_of_ble_eq_true rfl) (Nat.le_of_ble_eq_true rfl) dX3_init_1 ?_
  refine g_aload_n (pc := 4) dX3_init_4 0 rfl ?_
  refine g_bipush (pc := 5) dX3_init_5 cb_6 ?_
  refine g_newa (pc := 7) (t := 0) (n := 6) (x := (6 : Int32)) at_0 tw134 (by decide +kernel) (Nat.le_of_ble_eq_true rfl) dX3_init_7 (fun x2 h1 => ?_)
  refine g_putr (pc := 9) cl3 (Nat.le_of_ble_eq_true rfl) (Or.inr ⟨rfl, rfl, by decide +kernel, tw207⟩) (fun _ _ _ => rfl) (fun _ => ⟨rfl, rfl⟩) dX3_init_9 (fun h2 => ?_)
  refine g_aload_n (pc := 12) dX3_init_12 0 rfl ?_
  refine g_iconst (pc := 13) dX3_init_13 ci_5 ?_
  refine g_newa (pc := 14) (t := 0) (n := 5) (x := (5 : Int32)) at_0 tw134 (by decide +kernel) (Nat.le_of_ble_eq_true rfl) dX3_init_14 (fun x3 h3 => ?_)
  refine g_putr (pc := 16) cl3 (Nat.le_of_ble_eq_true rfl) (Or.inr ⟨rfl, rfl, by decide +kernel, tw213⟩) (fun _ _ _ => rfl) (fun _ => ⟨rfl, rfl⟩) dX3_init_16 (fun h4 => ?_)
  exact g_ret (pc := 19) rfl isRet_v dX3_init_19 rfl
theorem p_X3_init {l : Launch} {E : aE} (hl : l.stackTraces = false) (x1 : Nat) (h0 : aH) : MO (fun (_ : Unit) => .inl none) l E yX3_init (.code yX3_init cX3_init 1 none) 1 30 [.ref (e_z E + x1)] h0 (m_X3_init x1 h0) := g_met hl (by decide +kernel) (Nat.le_of_ble_eq_true rfl) (b_X3_init hl _ _ x1 h0)
theorem dX4_init_0 : decode cX4_init 0 = .ok (.aload_n 0, 1) := by decide +kernel
theorem dX4_init_1 : decode cX4_init 1 = .ok (.invokespecial 3, 3) := by decide +kernel
theorem dX4_init_4 : decode cX4_init 4 = .ok (.aload_n 0, 1) := by decide +kernel
theorem dX4_init_5 : decode cX4_init 5 = .ok (.bipush 12, 2) := by decide +kernel
theorem dX4_init_7 : decode cX4_init 7 = .ok (.newarray .int, 2) := by decide +kernel
theorem dX4_init_9 : decode cX4_init 9 = .ok (.putfield 9, 3) := by decide +kernel
theorem dX4_init_12 : decode cX4_init 12 = .ok (.aload_n 0, 1) := by decide +kernel
theorem dX4_init_13 : decode cX4_init 13 = .ok (.bipush 12, 2) := by decide +kernel
theorem dX4_init_15 : decode cX4_init 15 = .ok (.newarray .int, 2) := by decide +kernel
theorem dX4_init_17 : decode cX4_init 17 = .ok (.putfield 15, 3) := by decide +kernel
theorem dX4_init_20 : decode cX4_init 20 = .ok (.aload_n 0, 1) := by decide +kernel
theorem dX4_init_21 : decode cX4_init 21 = .ok (.iconst 5, 1) := by decide +kernel
theorem dX4_init_22 : decode cX4_init 22 = .ok (.newarray .int, 2) := by decide +kernel
theorem dX4_init_24 : decode cX4_init 24 = .ok (.putfield 18, 3) := by decide +kernel
theorem dX4_init_27 : decode cX4_init 27 = .ok (.aload_n 0, 1) := by decide +kernel
theorem dX4_init_28 : decode cX4_init 28 = .ok (.iconst 5, 1) := by decide +kernel
theorem dX4_init_29 : decode cX4_init 29 = .ok (.newarray .int, 2) := by decide +kernel
theorem dX4_init_31 : decode cX4_init 31 = .ok (.putfield 21, 3) := by decide +kernel
theorem dX4_init_34 : decode cX4_init 34 = .ok (.aload_n 0, 1) := by decide +kernel
theorem dX4_init_35 : decode cX4_init 35 = .ok (.iconst 5, 1) := by decide +kernel
theorem dX4_init_36 : decode cX4_init 36 = .ok (.newarray .int, 2) := by decide +kernel
theorem dX4_init_38 : decode cX4_init 38 = .ok (.putfield 24, 3) := by decide +kernel
theorem dX4_init_41 : decode cX4_init 41 = .ok (.aload_n 0, 1) := by decide +kernel
theorem dX4_init_42 : decode cX4_init 42 = .ok (.iconst 5, 1) := by decide +kernel
theorem dX4_init_43 : decode cX4_init 43 = .ok (.newarray .int, 2) := by decide +kernel
theorem dX4_init_45 : decode cX4_init 45 = .ok (.putfield 27, 3) := by decide +kernel
theorem dX4_init_48 : decode cX4_init 48 = .ok (.aload_n 0, 1) := by decide +kernel
theorem dX4_init_49 : decode cX4_init 49 = .ok (.bipush 32, 2) := by decide +kernel
theorem dX4_init_51 : decode cX4_init 51 = .ok (.newarray .int, 2) := by decide +kernel
theorem dX4_init_53 : decode cX4_init 53 = .ok (.putfield 30, 3) := by decide +kernel
theorem dX4_init_56 : decode cX4_init 56 = .ok (.aload_n 0, 1) := by decide +kernel
theorem dX4_init_57 : decode cX4_init 57 = .ok (.aload_n 1, 1) := by decide +kernel
theorem dX4_init_58 : decode cX4_init 58 = .ok (.putfield 33, 3) := by decide +kernel
theorem dX4_init_61 : decode cX4_init 61 = .ok (.aload_n 0, 1) := by decide +kernel
theorem dX4_init_62 : decode cX4_init 62 = .ok (.aload_n 1, 1) := by decide +kernel
theorem dX4_init_63 : decode cX4_init 63 = .ok (.getfield 37, 3) := by decide +kernel
theorem dX4_init_66 : decode cX4_init 66 = .ok (.putfield 43, 3) := by decide +kernel
theorem dX4_init_69 : decode cX4_init 69 = .ok (.return_, 1) := by decide +kernel
abbrev M_X4_init : aM := (yX4_init.cls, cX4_init, 2, none, [], yX4_init.name == "<init>")
abbrev J_X4_init (l : Launch) (E : aE) (n0 m0 : Nat) := GG (fun (_ : Unit) => .inl none) l E M_X4_init 1 30 n0 m0
theorem b_X4_init {l : Launch} {E : aE} (hl : l.stackTraces = false) (n0 m0 : Nat) (x1 : Nat) (x2 : Nat) (h0 : aH) : J_X4_init l E n0 m0 0 [(0, .ref (e_z E + x1)), (1, .ref (e_z E + x2))] [] h0 (m_X4_init x1 x2 h0) := by
  unfold m_X4_init
  refine g_aload_n (pc := 0) dX4_init_0 0 rfl ?_
  refine g_objInit (pc := 1) tw420 tw35 tw36 (Nat.le_of_ble_eq_true rfl) (Nat.le_of_ble_eq_true rfl) dX4_init_1 ?_
  refine g_aload_n (pc := 4) dX4_init_4 0 rfl ?_
  refine g_bipush (pc := 5) dX4_init_5 cb_12 ?_
  refine g_newa (pc := 7) (t := 0) (n := 12) (x := (12 : Int32)) at_0 tw134 (by decide +kernel) (Nat.le_of_ble_eq_true rfl) dX4_init_7 (fun x3 h1 => ?_)
  refine g_putr (pc := 9) cl4 (Nat.le_of_ble_eq_true rfl) (Or.inr ⟨rfl, rfl, by decide +kernel, tw423⟩) (fun _ _ _ => rfl) (fun _ => ⟨rfl, rfl⟩) dX4_init_9 (fun h2 => ?_)
  refine g_aload_n (pc := 12) dX4_init_12 0 rfl ?_
  refine g_bipush (pc := 13) dX4_init_13 cb_12 ?_
  refine g_newa (pc := 15) (t := 0) (n := 12) (x := (12 : Int32)) at_0 tw134 (by decide +kernel) (Nat.le_of_ble_eq_true rfl) dX4_init_15 (fun x4 h3 => ?_)
  refine g_putr (pc := 17) cl4 (Nat.le_of_ble_eq_true rfl) (Or.inr ⟨rfl, rfl, by decide +kernel, tw425⟩) (fun _ _ _ => rfl) (fun _ => ⟨rfl, rfl⟩) dX4_init_17 (fun h4 => ?_)
  refine g_aload_n (pc := 20) dX4_init_20 0 rfl ?_
  refine g_iconst (pc := 21) dX4_init_21 ci_5 ?_
  refine g_newa (pc := 22) (t := 0) (n := 5) (x := (5 : Int32)) at_0 tw134 (by decide +kernel) (Nat.le_of_ble_eq_true rfl) dX4_init_22 (fun x5 h5 => ?_)
  refine g_putr (pc := 24) cl4 (Nat.le_of_ble_eq_true rfl) (Or.inr ⟨rfl, rfl, by decide +kernel, tw428⟩) (fun _ _ _ => rfl) (fun _ => ⟨rfl, rfl⟩) dX4_init_24 (fun h6 => ?_)
  refine g_aload_n (pc := 27) dX4_init_27 0 rfl ?_
  refine g_iconst (pc := 28) dX4_init_28 ci_5 ?_
  refine g_newa (pc := 29) (t := 0) (n := 5) (x := (5 : Int32)) at_0 tw134 (by decide +kernel) (Nat.le_of_ble_eq_true rfl) dX4_init_29 (fun x6 h7 => ?_)
  refine g_putr (pc := 31) cl4 (Nat.le_of_ble_eq_true rfl) (Or.inr ⟨rfl, rfl, by decide +kernel, tw430⟩) (fun _ _ _ => rfl) (fun _ => ⟨rfl, rfl⟩) dX4_init_31 (fun h8 => ?_)
  refine g_aload_n (pc := 34) dX4_init_34 0 rfl ?_
  refine g_iconst (pc := 35) dX4_init_35 ci_5 ?_
  refine g_newa (pc := 36) (t := 0) (n := 5) (x := (5 : Int32)) at_0 tw134 (by decide +kernel) (Nat.le_of_ble_eq_true rfl) dX4_init_36 (fun x7 h9 => ?_)
  refine g_putr (pc := 38) cl4 (Nat.le_of_ble_eq_true rfl) (Or.inr ⟨rfl, rfl, by decide +kernel, tw432⟩) (fun _ _ _ => rfl) (fun _ => ⟨rfl, rfl⟩) dX4_init_38 (fun h10 => ?_)
  refine g_aload_n (pc := 41) dX4_init_41 0 rfl ?_
  refine g_iconst (pc := 42) dX4_init_42 ci_5 ?_
  refine g_newa (pc := 43) (t := 0) (n := 5) (x := (5 : Int32)) at_0 tw134 (by decide +kernel) (Nat.le_of_ble_eq_true rfl) dX4_init_43 (fun x8 h11 => ?_)
  refine g_putr (pc := 45) cl4 (Nat.le_of_ble_eq_true rfl) (Or.inr ⟨rfl, rfl, by decide +kernel, tw434⟩) (fun _ _ _ => rfl) (fun _ => ⟨rfl, rfl⟩) dX4_init_45 (fun h12 => ?_)
  refine g_aload_n (pc := 48) dX4_init_48 0 rfl ?_
  refine g_bipush (pc := 49) dX4_init_49 cb_32 ?_
  refine g_newa (pc := 51) (t := 0) (n := 32) (x := (32 : Int32)) at_0 tw134 (by decide +kernel) (Nat.le_of_ble_eq_true rfl) dX4_init_51 (fun x9 h13 => ?_)
  refine g_putr (pc := 53) cl4 (Nat.le_of_ble_eq_true rfl) (Or.inr ⟨rfl, rfl, by decide +kernel, tw436⟩) (fun _ _ _ => rfl) (fun _ => ⟨rfl, rfl⟩) dX4_init_53 (fun h14 => ?_)
  refine g_aload_n (pc := 56) dX4_init_56 0 rfl ?_
  refine g_aload_n (pc := 57) dX4_init_57 1 rfl ?_
  refine g_putr (pc := 58) cl4 (Nat.le_of_ble_eq_true rfl) (Or.inl ⟨rfl, fk421⟩) (fun _ _ _ => rfl) (fun _ => ⟨rfl, rfl⟩) dX4_init_58 (fun h15 => ?_)
  refine g_aload_n (pc := 61) dX4_init_61 0 rfl ?_
  refine g_aload_n (pc := 62) dX4_init_62 1 rfl ?_
  refine g_getr (pc := 63) cl10 (Nat.le_of_ble_eq_true rfl) fk347 (fun _ _ _ => rfl) dX4_init_63 (fun x10 => ?_)
  refine g_putr (pc := 66) cl4 (Nat.le_of_ble_eq_true rfl) (Or.inl ⟨rfl, fk422⟩) (fun _ _ _ => rfl) (fun _ => ⟨rfl, rfl⟩) dX4_init_66 (fun h16 => ?_)
  exact g_ret (pc := 69) rfl isRet_v dX4_init_69 rfl
theorem p_X4_init {l : Launch} {E : aE} (hl : l.stackTraces = false) (x1 : Nat) (x2 : Nat) (h0 : aH) : MO (fun (_ : Unit) => .inl none) l E yX4_init (.code yX4_init cX4_init 2 none) 1 30 [.ref (e_z E + x1), .ref (e_z E + x2)] h0 (m_X4_init x1 x2 h0) := g_met hl (by decide +kernel) (Nat.le_of_ble_eq_true rfl) (b_X4_init hl _ _ x1 x2 h0)
theorem dX10_handOnsAt_0 : decode cX10_handOnsAt 0 = .ok (.iconst 0, 1) := by decide +kernel
theorem dX10_handOnsAt_1 : decode cX10_handOnsAt 1 = .ok (.istore_n 3, 1) := by decide +kernel
theorem dX10_handOnsAt_2 : decode cX10_handOnsAt 2 = .ok (.iconst 0, 1) := by decide +kernel
theorem dX10_handOnsAt_3 : decode cX10_handOnsAt 3 = .ok (.istore 4, 2) := by decide +kernel
theorem dX10_handOnsAt_5 : decode cX10_handOnsAt 5 = .ok (.iload 4, 2) := by decide +kernel
theorem dX10_handOnsAt_7 : decode cX10_handOnsAt 7 = .ok (.aload_n 0, 1) := by decide +kernel
theorem dX10_handOnsAt_8 : decode cX10_handOnsAt 8 = .ok (.getfield 27, 3) := by decide +kernel
theorem dX10_handOnsAt_11 : decode cX10_handOnsAt 11 = .ok (.iload_n 1, 1) := by decide +kernel
theorem dX10_handOnsAt_12 : decode cX10_handOnsAt 12 = .ok (.iaload, 1) := by decide +kernel
theorem dX10_handOnsAt_13 : decode cX10_handOnsAt 13 = .ok (.if_icmp .ge 27, 3) := by decide +kernel
theorem dX10_handOnsAt_16 : decode cX10_handOnsAt 16 = .ok (.aload_n 0, 1) := by decide +kernel
theorem dX10_handOnsAt_17 : decode cX10_handOnsAt 17 = .ok (.getfield 33, 3) := by decide +kernel
theorem dX10_handOnsAt_20 : decode cX10_handOnsAt 20 = .ok (.iload_n 1, 1) := by decide +kernel
theorem dX10_handOnsAt_21 : decode cX10_handOnsAt 21 = .ok (.iconst 3, 1) := by decide +kernel
theorem dX10_handOnsAt_22 : decode cX10_handOnsAt 22 = .ok (.imul, 1) := by decide +kernel
theorem dX10_handOnsAt_23 : decode cX10_handOnsAt 23 = .ok (.iload 4, 2) := by decide +kernel
theorem dX10_handOnsAt_25 : decode cX10_handOnsAt 25 = .ok (.iadd, 1) := by decide +kernel
theorem dX10_handOnsAt_26 : decode cX10_handOnsAt 26 = .ok (.iaload, 1) := by decide +kernel
theorem dX10_handOnsAt_27 : decode cX10_handOnsAt 27 = .ok (.iload_n 2, 1) := by decide +kernel
theorem dX10_handOnsAt_28 : decode cX10_handOnsAt 28 = .ok (.if_icmp .le 6, 3) := by decide +kernel
theorem dX10_handOnsAt_31 : decode cX10_handOnsAt 31 = .ok (.iinc 3 1, 3) := by decide +kernel
theorem dX10_handOnsAt_34 : decode cX10_handOnsAt 34 = .ok (.iinc 4 1, 3) := by decide +kernel
theorem dX10_handOnsAt_37 : decode cX10_handOnsAt 37 = .ok (.goto (-32), 3) := by decide +kernel
theorem dX10_handOnsAt_40 : decode cX10_handOnsAt 40 = .ok (.iload_n 3, 1) := by decide +kernel
theorem dX10_handOnsAt_41 : decode cX10_handOnsAt 41 = .ok (.ireturn, 1) := by decide +kernel
abbrev M_X10_handOnsAt : aM := (yX10_handOnsAt.cls, cX10_handOnsAt, 5, (some .int), [], yX10_handOnsAt.name == "<init>")
abbrev J_X10_handOnsAt (l : Launch) (E : aE) (n0 m0 : Nat) := GG (fun (v : Int32) => .inl (some (.int v))) l E M_X10_handOnsAt 0 0 n0 m0
theorem b_X10_handOnsAt {l : Launch} {E : aE} (hl : l.stackTraces = false) (n0 m0 : Nat) (x1 : Nat) (x2 : Int32) (x3 : Int32) (h0 : aH) : J_X10_handOnsAt l E n0 m0 0 [(0, .ref (e_z E + x1)), (1, .int x2), (2, .int x3)] [] h0 (m_X10_handOnsAt x1 x2 x3 h0) := by
  unfold m_X10_handOnsAt
  refine g_iconst (pc := 0) dX10_handOnsAt_0 ci_0 ?_
  refine g_istore_n (pc := 1) (lv' := [(3, .int (0 : Int32)), (0, .ref (e_z E + x1)), (1, .int x2), (2, .int x3)]) dX10_handOnsAt_1 (Nat.le_of_ble_eq_true rfl) rfl ?_
  refine g_iconst (pc := 2) dX10_handOnsAt_2 ci_0 ?_
  refine g_istore (pc := 3) (lv' := [(4, .int (0 : Int32)), (3, .int (0 : Int32)), (0, .ref (e_z E + x1)), (1, .int x2), (2, .int x3)]) dX10_handOnsAt_3 (Nat.le_of_ble_eq_true rfl) rfl ?_
  refine g_join (fun k => ∀ (x4 : Int32) (h1 : aH), J_X10_handOnsAt l E n0 m0 40 [(3, .int x4)] [] h1 (k x4 h1)) (fun x4 h1 => ?_) (fun k40 hk40 => ?_)
  · refine g_iload_n (pc := 40) dX10_handOnsAt_40 0 rfl ?_
    exact g_ret (pc := 41) rfl (isRet_i _) dX10_handOnsAt_41 rfl
  refine g_lv [2, 3, 4, 1, 0] rfl ?_
  refine g_loop2 (F := (m_X10_handOnsAt_L5 x1 x2 x3 k40)) (fun x5 x6 => [(0, .ref (e_z E + x1)), (1, .int x2), (2, .int x3), (3, .int x5), (4, .int x6)]) (fun r5 hr5 x5 x6 h2 => ?_) _ _ _ _
  unfold m_X10_handOnsAt_L5
  refine g_iload (pc := 5) dX10_handOnsAt_5 4 rfl ?_
  refine g_aload_n (pc := 7) dX10_handOnsAt_7 0 rfl ?_
  refine g_getr (pc := 8) cl10 (Nat.le_of_ble_eq_true rfl) fk365 (fun _ _ _ => rfl) dX10_handOnsAt_8 (fun x7 => ?_)
  refine g_iload_n (pc := 11) dX10_handOnsAt_11 1 rfl ?_
  refine g_iald (pc := 12) dX10_handOnsAt_12 (fun x8 => ?_)
  refine g_icmpge (pc := 13) (tgt := 40) dX10_handOnsAt_13 rfl ?_ ?_
  · refine g_aload_n (pc := 16) dX10_handOnsAt_16 0 rfl ?_
    refine g_getr (pc := 17) cl10 (Nat.le_of_ble_eq_true rfl) fk369 (fun _ _ _ => rfl) dX10_handOnsAt_17 (fun x9 => ?_)
    refine g_iload_n (pc := 20) dX10_handOnsAt_20 1 rfl ?_
    refine g_iconst (pc := 21) dX10_handOnsAt_21 ci_3 ?_
    refine g_imul (pc := 22) dX10_handOnsAt_22 ?_
    refine g_iload (pc := 23) dX10_handOnsAt_23 4 rfl ?_
    refine g_iadd (pc := 25) dX10_handOnsAt_25 ?_
    refine g_iald (pc := 26) dX10_handOnsAt_26 (fun x10 => ?_)
    refine g_iload_n (pc := 27) dX10_handOnsAt_27 2 rfl ?_
    refine g_join (fun k => ∀ (x11 : Int32) (h3 : aH), J_X10_handOnsAt l E n0 m0 34 [(0, .ref (e_z E + x1)), (1, .int x2), (2, .int x3), (3, .int x11), (4, .int x6)] [] h3 (k x11 h3)) (fun x11 h3 => ?_) (fun k34 hk34 => ?_)
    · refine g_iincN (pc := 34) dX10_handOnsAt_34 4 rfl ci_1 (Nat.le_of_ble_eq_true rfl) (fun x12 => ?_)
      refine g_lvr (lv' := [(4, .int x12), (0, .ref (e_z E + x1)), (1, .int x2), (2, .int x3), (3, .int x11)]) rfl ?_
      refine g_goto (pc := 37) (tgt := 5) dX10_handOnsAt_37 rfl ?_
      refine g_lv [1, 2, 3, 4, 0] rfl ?_
      exact hr5 x11 x12 h3
    refine g_icmple (pc := 28) (tgt := 34) dX10_handOnsAt_28 rfl ?_ ?_
    · exact hk34 x5 h2
    · refine g_iincN (pc := 31) dX10_handOnsAt_31 3 rfl ci_1 (Nat.le_of_ble_eq_true rfl) (fun x13 => ?_)
      refine g_lvr (lv' := [(3, .int x13), (0, .ref (e_z E + x1)), (1, .int x2), (2, .int x3), (4, .int x6)]) rfl ?_
      refine g_lv [1, 2, 3, 0, 4] rfl ?_
      exact hk34 x13 h2
  · refine g_lv [3] rfl ?_
    exact hk40 x5 h2
theorem p_X10_handOnsAt {l : Launch} {E : aE} (hl : l.stackTraces = false) (x1 : Nat) (x2 : Int32) (x3 : Int32) (h0 : aH) : MO (fun (v : Int32) => .inl (some (.int v))) l E yX10_handOnsAt (.code yX10_handOnsAt cX10_handOnsAt 5 (some .int)) 0 0 [.ref (e_z E + x1), .int x2, .int x3] h0 (m_X10_handOnsAt x1 x2 x3 h0) := g_met hl (by decide +kernel) (Nat.le_of_ble_eq_true rfl) (b_X10_handOnsAt hl _ _ x1 x2 x3 h0)
theorem dX10_placeAt_0 : decode cX10_placeAt 0 = .ok (.iload_n 2, 1) := by decide +kernel
theorem dX10_placeAt_1 : decode cX10_placeAt 1 = .ok (.iconst 1, 1) := by decide +kernel
theorem dX10_placeAt_2 : decode cX10_placeAt 2 = .ok (.aload_n 0, 1) := by decide +kernel
theorem dX10_placeAt_3 : decode cX10_placeAt 3 = .ok (.getfield 52, 3) := by decide +kernel
theorem dX10_placeAt_6 : decode cX10_placeAt 6 = .ok (.getfield 81, 3) := by decide +kernel
theorem dX10_placeAt_9 : decode cX10_placeAt 9 = .ok (.iload_n 1, 1) := by decide +kernel
theorem dX10_placeAt_10 : decode cX10_placeAt 10 = .ok (.aaload, 1) := by decide +kernel
theorem dX10_placeAt_11 : decode cX10_placeAt 11 = .ok (.getfield 154, 3) := by decide +kernel
theorem dX10_placeAt_14 : decode cX10_placeAt 14 = .ok (.invokestatic 72, 3) := by decide +kernel
theorem dX10_placeAt_17 : decode cX10_placeAt 17 = .ok (.idiv, 1) := by decide +kernel
theorem dX10_placeAt_18 : decode cX10_placeAt 18 = .ok (.istore_n 3, 1) := by decide +kernel
theorem dX10_placeAt_19 : decode cX10_placeAt 19 = .ok (.iload_n 3, 1) := by decide +kernel
theorem dX10_placeAt_20 : decode cX10_placeAt 20 = .ok (.iconst 1, 1) := by decide +kernel
theorem dX10_placeAt_21 : decode cX10_placeAt 21 = .ok (.aload_n 0, 1) := by decide +kernel
theorem dX10_placeAt_22 : decode cX10_placeAt 22 = .ok (.getfield 52, 3) := by decide +kernel
theorem dX10_placeAt_25 : decode cX10_placeAt 25 = .ok (.getfield 81, 3) := by decide +kernel
theorem dX10_placeAt_28 : decode cX10_placeAt 28 = .ok (.iload_n 1, 1) := by decide +kernel
theorem dX10_placeAt_29 : decode cX10_placeAt 29 = .ok (.aaload, 1) := by decide +kernel
theorem dX10_placeAt_30 : decode cX10_placeAt 30 = .ok (.getfield 157, 3) := by decide +kernel
theorem dX10_placeAt_33 : decode cX10_placeAt 33 = .ok (.invokestatic 72, 3) := by decide +kernel
theorem dX10_placeAt_36 : decode cX10_placeAt 36 = .ok (.irem, 1) := by decide +kernel
theorem dX10_placeAt_37 : decode cX10_placeAt 37 = .ok (.ireturn, 1) := by decide +kernel
abbrev M_X10_placeAt : aM := (yX10_placeAt.cls, cX10_placeAt, 4, (some .int), [], yX10_placeAt.name == "<init>")
abbrev J_X10_placeAt (l : Launch) (E : aE) (n0 m0 : Nat) := GG (fun (v : Int32) => .inl (some (.int v))) l E M_X10_placeAt 1 30 n0 m0
theorem b_X10_placeAt {l : Launch} {E : aE} (hl : l.stackTraces = false) (n0 m0 : Nat) (x1 : Nat) (x2 : Int32) (x3 : Int32) (h0 : aH) : J_X10_placeAt l E n0 m0 0 [(0, .ref (e_z E + x1)), (1, .int x2), (2, .int x3)] [] h0 (m_X10_placeAt x1 x2 x3 h0) := by
  unfold m_X10_placeAt
  refine g_iload_n (pc := 0) dX10_placeAt_0 2 rfl ?_
  refine g_iconst (pc := 1) dX10_placeAt_1 ci_1 ?_
  refine g_aload_n (pc := 2) dX10_placeAt_2 0 rfl ?_
  refine g_getr (pc := 3) cl10 (Nat.le_of_ble_eq_true rfl) fk348 (fun _ _ _ => rfl) dX10_placeAt_3 (fun x4 => ?_)
  refine g_getr (pc := 6) cl8 (Nat.le_of_ble_eq_true rfl) fk257 (fun _ _ _ => rfl) dX10_placeAt_6 (fun x5 => ?_)
  refine g_iload_n (pc := 9) dX10_placeAt_9 1 rfl ?_
  refine g_aald (pc := 10) (t := 6) (Nat.le_of_ble_eq_true rfl) (Nat.le_of_ble_eq_true rfl) dX10_placeAt_10 (fun x6 => ?_)
  refine g_geti (pc := 11) cl6 (Nat.le_of_ble_eq_true rfl) fk144 (fun _ _ _ => rfl) dX10_placeAt_11 (fun x7 => ?_)
  refine g_mmax (pc := 14) tw851 tw852 tw19 tw853 (Nat.le_of_ble_eq_true rfl) (Nat.le_of_ble_eq_true rfl) dX10_placeAt_14 ?_
  refine g_idiv (pc := 17) dX10_placeAt_17 (fun x8 => ?_)
  refine g_istore_n (pc := 18) (lv' := [(3, .int x8), (0, .ref (e_z E + x1)), (1, .int x2), (2, .int x3)]) dX10_placeAt_18 (Nat.le_of_ble_eq_true rfl) rfl ?_
  refine g_iload_n (pc := 19) dX10_placeAt_19 0 rfl ?_
  refine g_iconst (pc := 20) dX10_placeAt_20 ci_1 ?_
  refine g_aload_n (pc := 21) dX10_placeAt_21 1 rfl ?_
  refine g_getr (pc := 22) cl10 (Nat.le_of_ble_eq_true rfl) fk348 (fun _ _ _ => rfl) dX10_placeAt_22 (fun x9 => ?_)
  refine g_getr (pc := 25) cl8 (Nat.le_of_ble_eq_true rfl) fk257 (fun _ _ _ => rfl) dX10_placeAt_25 (fun x10 => ?_)
  refine g_iload_n (pc := 28) dX10_placeAt_28 2 rfl ?_
  refine g_aald (pc := 29) (t := 6) (Nat.le_of_ble_eq_true rfl) (Nat.le_of_ble_eq_true rfl) dX10_placeAt_29 (fun x11 => ?_)
  refine g_geti (pc := 30) cl6 (Nat.le_of_ble_eq_true rfl) fk146 (fun _ _ _ => rfl) dX10_placeAt_30 (fun x12 => ?_)
  refine g_mmax (pc := 33) tw851 tw852 tw19 tw853 (Nat.le_of_ble_eq_true rfl) (Nat.le_of_ble_eq_true rfl) dX10_placeAt_33 ?_
  refine g_irem (pc := 36) dX10_placeAt_36 (fun x13 => ?_)
  exact g_ret (pc := 37) rfl (isRet_i _) dX10_placeAt_37 rfl
theorem p_X10_placeAt {l : Launch} {E : aE} (hl : l.stackTraces = false) (x1 : Nat) (x2 : Int32) (x3 : Int32) (h0 : aH) : MO (fun (v : Int32) => .inl (some (.int v))) l E yX10_placeAt (.code yX10_placeAt cX10_placeAt 4 (some .int)) 1 30 [.ref (e_z E + x1), .int x2, .int x3] h0 (m_X10_placeAt x1 x2 x3 h0) := g_met hl (by decide +kernel) (Nat.le_of_ble_eq_true rfl) (b_X10_placeAt hl _ _ x1 x2 x3 h0)
theorem dX10_holderThen_0 : decode cX10_holderThen 0 = .ok (.aload_n 0, 1) := by decide +kernel
theorem dX10_holderThen_1 : decode cX10_holderThen 1 = .ok (.iload_n 1, 1) := by decide +kernel
theorem dX10_holderThen_2 : decode cX10_holderThen 2 = .ok (.iload_n 2, 1) := by decide +kernel
theorem dX10_holderThen_3 : decode cX10_holderThen 3 = .ok (.invokevirtual 160, 3) := by decide +kernel
theorem dX10_holderThen_6 : decode cX10_holderThen 6 = .ok (.istore_n 3, 1) := by decide +kernel
theorem dX10_holderThen_7 : decode cX10_holderThen 7 = .ok (.iload_n 3, 1) := by decide +kernel
theorem dX10_holderThen_8 : decode cX10_holderThen 8 = .ok (.ifCond .le 16, 3) := by decide +kernel
theorem dX10_holderThen_11 : decode cX10_holderThen 11 = .ok (.aload_n 0, 1) := by decide +kernel
theorem dX10_holderThen_12 : decode cX10_holderThen 12 = .ok (.getfield 30, 3) := by decide +kernel
theorem dX10_holderThen_15 : decode cX10_holderThen 15 = .ok (.iload_n 1, 1) := by decide +kernel
theorem dX10_holderThen_16 : decode cX10_holderThen 16 = .ok (.iconst 3, 1) := by decide +kernel
theorem dX10_holderThen_17 : decode cX10_holderThen 17 = .ok (.imul, 1) := by decide +kernel
theorem dX10_holderThen_18 : decode cX10_holderThen 18 = .ok (.iload_n 3, 1) := by decide +kernel
theorem dX10_holderThen_19 : decode cX10_holderThen 19 = .ok (.iadd, 1) := by decide +kernel
theorem dX10_holderThen_20 : decode cX10_holderThen 20 = .ok (.iconst 1, 1) := by decide +kernel
theorem dX10_holderThen_21 : decode cX10_holderThen 21 = .ok (.isub, 1) := by decide +kernel
theorem dX10_holderThen_22 : decode cX10_holderThen 22 = .ok (.iaload, 1) := by decide +kernel
theorem dX10_holderThen_23 : decode cX10_holderThen 23 = .ok (.ireturn, 1) := by decide +kernel
theorem dX10_holderThen_24 : decode cX10_holderThen 24 = .ok (.aload_n 0, 1) := by decide +kernel
theorem dX10_holderThen_25 : decode cX10_holderThen 25 = .ok (.getfield 24, 3) := by decide +kernel
theorem dX10_holderThen_28 : decode cX10_holderThen 28 = .ok (.iload_n 1, 1) := by decide +kernel
theorem dX10_holderThen_29 : decode cX10_holderThen 29 = .ok (.bipush 8, 2) := by decide +kernel
theorem dX10_holderThen_31 : decode cX10_holderThen 31 = .ok (.imul, 1) := by decide +kernel
theorem dX10_holderThen_32 : decode cX10_holderThen 32 = .ok (.aload_n 0, 1) := by decide +kernel
theorem dX10_holderThen_33 : decode cX10_holderThen 33 = .ok (.iload_n 1, 1) := by decide +kernel
theorem dX10_holderThen_34 : decode cX10_holderThen 34 = .ok (.iload_n 2, 1) := by decide +kernel
theorem dX10_holderThen_35 : decode cX10_holderThen 35 = .ok (.invokevirtual 163, 3) := by decide +kernel
theorem dX10_holderThen_38 : decode cX10_holderThen 38 = .ok (.iadd, 1) := by decide +kernel
theorem dX10_holderThen_39 : decode cX10_holderThen 39 = .ok (.iaload, 1) := by decide +kernel
theorem dX10_holderThen_40 : decode cX10_holderThen 40 = .ok (.ireturn, 1) := by decide +kernel
abbrev M_X10_holderThen : aM := (yX10_holderThen.cls, cX10_holderThen, 4, (some .int), [], yX10_holderThen.name == "<init>")
abbrev J_X10_holderThen (l : Launch) (E : aE) (n0 m0 : Nat) := GG (fun (v : Int32) => .inl (some (.int v))) l E M_X10_holderThen 2 53 n0 m0
theorem b_X10_holderThen {l : Launch} {E : aE} (hl : l.stackTraces = false) (n0 m0 : Nat) (x1 : Nat) (x2 : Int32) (x3 : Int32) (h0 : aH) : J_X10_holderThen l E n0 m0 0 [(0, .ref (e_z E + x1)), (1, .int x2), (2, .int x3)] [] h0 (m_X10_holderThen x1 x2 x3 h0) := by
  unfold m_X10_holderThen
  refine g_aload_n (pc := 0) dX10_holderThen_0 0 rfl ?_
  refine g_iload_n (pc := 1) dX10_holderThen_1 1 rfl ?_
  refine g_iload_n (pc := 2) dX10_holderThen_2 2 rfl ?_
  refine g_gS (fun hs => ?_)
  refine g_bRi (pc := 3) (c_V cl10 hs (p_X10_handOnsAt hl x1 x2 x3 h0) y_X10_handOnsAt tw1058 dX10_holderThen_3 rfl (st := []) rfl (Nat.le_of_ble_eq_true rfl) (Nat.le_of_ble_eq_true rfl) (Nat.le_of_ble_eq_true rfl)) (fun x4 h1 => ?_)
  refine g_istore_n (pc := 6) (lv' := [(3, .int x4), (0, .ref (e_z E + x1)), (1, .int x2), (2, .int x3)]) dX10_holderThen_6 (Nat.le_of_ble_eq_true rfl) rfl ?_
  refine g_iload_n (pc := 7) dX10_holderThen_7 0 rfl ?_
  refine g_ifle (pc := 8) (tgt := 24) dX10_holderThen_8 rfl ?_ ?_
  · refine g_aload_n (pc := 24) dX10_holderThen_24 1 rfl ?_
    refine g_getr (pc := 25) cl10 (Nat.le_of_ble_eq_true rfl) fk363 (fun _ _ _ => rfl) dX10_holderThen_25 (fun x5 => ?_)
    refine g_iload_n (pc := 28) dX10_holderThen_28 2 rfl ?_
    refine g_bipush (pc := 29) dX10_holderThen_29 cb_8 ?_
    refine g_imul (pc := 31) dX10_holderThen_31 ?_
    refine g_aload_n (pc := 32) dX10_holderThen_32 1 rfl ?_
    refine g_iload_n (pc := 33) dX10_holderThen_33 2 rfl ?_
    refine g_iload_n (pc := 34) dX10_holderThen_34 3 rfl ?_
    refine g_gS (fun hs => ?_)
    refine g_bRi (pc := 35) (c_V cl10 hs (p_X10_placeAt hl x1 x2 x3 h1) y_X10_placeAt tw1036 dX10_holderThen_35 rfl (st := [.int (x2 * (8 : Int32)), .ref (e_z E + x5)]) rfl (Nat.le_of_ble_eq_true rfl) (Nat.le_of_ble_eq_true rfl) (Nat.le_of_ble_eq_true rfl)) (fun x6 h2 => ?_)
    refine g_iadd (pc := 38) dX10_holderThen_38 ?_
    refine g_iald (pc := 39) dX10_holderThen_39 (fun x7 => ?_)
    exact g_ret (pc := 40) rfl (isRet_i _) dX10_holderThen_40 rfl
  · refine g_aload_n (pc := 11) dX10_holderThen_11 1 rfl ?_
    refine g_getr (pc := 12) cl10 (Nat.le_of_ble_eq_true rfl) fk368 (fun _ _ _ => rfl) dX10_holderThen_12 (fun x8 => ?_)
    refine g_iload_n (pc := 15) dX10_holderThen_15 2 rfl ?_
    refine g_iconst (pc := 16) dX10_holderThen_16 ci_3 ?_
    refine g_imul (pc := 17) dX10_holderThen_17 ?_
    refine g_iload_n (pc := 18) dX10_holderThen_18 0 rfl ?_
    refine g_iadd (pc := 19) dX10_holderThen_19 ?_
    refine g_iconst (pc := 20) dX10_holderThen_20 ci_1 ?_
    refine g_isub (pc := 21) dX10_holderThen_21 ?_
    refine g_iald (pc := 22) dX10_holderThen_22 (fun x9 => ?_)
    exact g_ret (pc := 23) rfl (isRet_i _) dX10_holderThen_23 rfl
theorem p_X10_holderThen {l : Launch} {E : aE} (hl : l.stackTraces = false) (x1 : Nat) (x2 : Int32) (x3 : Int32) (h0 : aH) : MO (fun (v : Int32) => .inl (some (.int v))) l E yX10_holderThen (.code yX10_holderThen cX10_holderThen 4 (some .int)) 2 53 [.ref (e_z E + x1), .int x2, .int x3] h0 (m_X10_holderThen x1 x2 x3 h0) := g_met hl (by decide +kernel) (Nat.le_of_ble_eq_true rfl) (b_X10_holderThen hl _ _ x1 x2 x3 h0)
theorem dX5_covers_0 : decode cX5_covers 0 = .ok (.iload_n 1, 1) := by decide +kernel
theorem dX5_covers_1 : decode cX5_covers 1 = .ok (.bipush 60, 2) := by decide +kernel
theorem dX5_covers_3 : decode cX5_covers 3 = .ok (.idiv, 1) := by decide +kernel
theorem dX5_covers_4 : decode cX5_covers 4 = .ok (.bipush 24, 2) := by decide +kernel
theorem dX5_covers_6 : decode cX5_covers 6 = .ok (.irem, 1) := by decide +kernel
theorem dX5_covers_7 : decode cX5_covers 7 = .ok (.istore_n 2, 1) := by decide +kernel
theorem dX5_covers_8 : decode cX5_covers 8 = .ok (.aload_n 0, 1) := by decide +kernel
theorem dX5_covers_9 : decode cX5_covers 9 = .ok (.getfield 9, 3) := by decide +kernel
theorem dX5_covers_12 : decode cX5_covers 12 = .ok (.aload_n 0, 1) := by decide +kernel
theorem dX5_covers_13 : decode cX5_covers 13 = .ok (.getfield 15, 3) := by decide +kernel
theorem dX5_covers_16 : decode cX5_covers 16 = .ok (.if_icmp .ge 25, 3) := by decide +kernel
theorem dX5_covers_19 : decode cX5_covers 19 = .ok (.aload_n 0, 1) := by decide +kernel
theorem dX5_covers_20 : decode cX5_covers 20 = .ok (.getfield 9, 3) := by decide +kernel
theorem dX5_covers_23 : decode cX5_covers 23 = .ok (.iload_n 2, 1) := by decide +kernel
theorem dX5_covers_24 : decode cX5_covers 24 = .ok (.if_icmp .gt 15, 3) := by decide +kernel
theorem dX5_covers_27 : decode cX5_covers 27 = .ok (.iload_n 2, 1) := by decide +kernel
theorem dX5_covers_28 : decode cX5_covers 28 = .ok (.aload_n 0, 1) := by decide +kernel
theorem dX5_covers_29 : decode cX5_covers 29 = .ok (.getfield 15, 3) := by decide +kernel
theorem dX5_covers_32 : decode cX5_covers 32 = .ok (.if_icmp .ge 7, 3) := by decide +kernel
theorem dX5_covers_35 : decode cX5_covers 35 = .ok (.iconst 1, 1) := by decide +kernel
theorem dX5_covers_36 : decode cX5_covers 36 = .ok (.goto 4, 3) := by decide +kernel
theorem dX5_covers_39 : decode cX5_covers 39 = .ok (.iconst 0, 1) := by decide +kernel
theorem dX5_covers_40 : decode cX5_covers 40 = .ok (.ireturn, 1) := by decide +kernel
theorem dX5_covers_41 : decode cX5_covers 41 = .ok (.aload_n 0, 1) := by decide +kernel
theorem dX5_covers_42 : decode cX5_covers 42 = .ok (.getfield 9, 3) := by decide +kernel
theorem dX5_covers_45 : decode cX5_covers 45 = .ok (.iload_n 2, 1) := by decide +kernel
theorem dX5_covers_46 : decode cX5_covers 46 = .ok (.if_icmp .le 11, 3) := by decide +kernel
theorem dX5_covers_49 : decode cX5_covers 49 = .ok (.iload_n 2, 1) := by decide +kernel
theorem dX5_covers_50 : decode cX5_covers 50 = .ok (.aload_n 0, 1) := by decide +kernel
theorem dX5_covers_51 : decode cX5_covers 51 = .ok (.getfield 15, 3) := by decide +kernel
theorem dX5_covers_54 : decode cX5_covers 54 = .ok (.if_icmp .ge 7, 3) := by decide +kernel
theorem dX5_covers_57 : decode cX5_covers 57 = .ok (.iconst 1, 1) := by decide +kernel
theorem dX5_covers_58 : decode cX5_covers 58 = .ok (.goto 4, 3) := by decide +kernel
theorem dX5_covers_61 : decode cX5_covers 61 = .ok (.iconst 0, 1) := by decide +kernel
theorem dX5_covers_62 : decode cX5_covers 62 = .ok (.ireturn, 1) := by decide +kernel
abbrev M_X5_covers : aM := (yX5_covers.cls, cX5_covers, 3, (some .boolean), [], yX5_covers.name == "<init>")
abbrev J_X5_covers (l : Launch) (E : aE) (n0 m0 : Nat) := GG (fun (v : Int32) => .inl (some (.int v))) l E M_X5_covers 0 0 n0 m0
theorem b_X5_covers {l : Launch} {E : aE} (hl : l.stackTraces = false) (n0 m0 : Nat) (x1 : Nat) (x2 : Int32) (h0 : aH) : J_X5_covers l E n0 m0 0 [(0, .ref (e_z E + x1)), (1, .int x2)] [] h0 (m_X5_covers x1 x2 h0) := by
  unfold m_X5_covers
  refine g_iload_n (pc := 0) dX5_covers_0 1 rfl ?_
  refine g_bipush (pc := 1) dX5_covers_1 cb_60 ?_
  refine g_idiv (pc := 3) dX5_covers_3 (fun x3 => ?_)
  refine g_bipush (pc := 4) dX5_covers_4 cb_24 ?_
  refine g_irem (pc := 6) dX5_covers_6 (fun x4 => ?_)
  refine g_istore_n (pc := 7) (lv' := [(2, .int x4), (0, .ref (e_z E + x1)), (1, .int x2)]) dX5_covers_7 (Nat.le_of_ble_eq_true rfl) rfl ?_
  refine g_aload_n (pc := 8) dX5_covers_8 1 rfl ?_
  refine g_geti (pc := 9) cl5 (Nat.le_of_ble_eq_true rfl) fk92 (fun _ _ _ => rfl) dX5_covers_9 (fun x5 => ?_)
  refine g_aload_n (pc := 12) dX5_covers_12 1 rfl ?_
  refine g_geti (pc := 13) cl5 (Nat.le_of_ble_eq_true rfl) fk93 (fun _ _ _ => rfl) dX5_covers_13 (fun x6 => ?_)
  refine g_icmpge (pc := 16) (tgt := 41) dX5_covers_16 rfl ?_ ?_
  · refine g_aload_n (pc := 19) dX5_covers_19 1 rfl ?_
    refine g_geti (pc := 20) cl5 (Nat.le_of_ble_eq_true rfl) fk92 (fun _ _ _ => rfl) dX5_covers_20 (fun x7 => ?_)
    refine g_iload_n (pc := 23) dX5_covers_23 0 rfl ?_
    refine g_join (fun k => ∀ (x8 : Int32) (h1 : aH), J_X5_covers l E n0 m0 40 [] [.int x8] h1 (k x8 h1)) (fun x8 h1 => ?_) (fun k40 hk40 => ?_)
    · refine g_zO (fun hz => ?_)
      exact g_ret (pc := 40) rfl (isRet_z hz) dX5_covers_40 rfl
    refine g_join (fun k => ∀ (h2 : aH), J_X5_covers l E n0 m0 39 [] [] h2 (k h2)) (fun h2 => ?_) (fun k39 hk39 => ?_)
    · refine g_iconst (pc := 39) dX5_covers_39 ci_0 ?_
      exact hk40 (0 : Int32) h2
    refine g_icmpgt (pc := 24) (tgt := 39) dX5_covers_24 rfl ?_ ?_
    · refine g_iload_n (pc := 27) dX5_covers_27 0 rfl ?_
      refine g_aload_n (pc := 28) dX5_covers_28 1 rfl ?_
      refine g_geti (pc := 29) cl5 (Nat.le_of_ble_eq_true rfl) fk93 (fun _ _ _ => rfl) dX5_covers_29 (fun x10 => ?_)
      refine g_icmpge (pc := 32) (tgt := 39) dX5_covers_32 rfl ?_ ?_
      · refine g_iconst (pc := 35) dX5_covers_35 ci_1 ?_
        refine g_goto (pc := 36) (tgt := 40) dX5_covers_36 rfl ?_
        refine g_lv [] rfl ?_
        exact hk40 (1 : Int32) h0
      · refine g_lv [] rfl ?_
        exact hk39 h0
    · refine g_lv [] rfl ?_
      exact hk39 h0
  · refine g_aload_n (pc := 41) dX5_covers_41 1 rfl ?_
    refine g_geti (pc := 42) cl5 (Nat.le_of_ble_eq_true rfl) fk92 (fun _ _ _ => rfl) dX5_covers_42 (fun x11 => ?_)
    refine g_iload_n (pc := 45) dX5_covers_45 0 rfl ?_
    refine g_join (fun k => ∀ (x12 : Int32) (h3 : aH), J_X5_covers l E n0 m0 62 [] [.int x12] h3 (k x12 h3)) (fun x12 h3 => ?_) (fun k62 hk62 => ?_)
    · refine g_zO (fun hz => ?_)
      exact g_ret (pc := 62) rfl (isRet_z hz) dX5_covers_62 rfl
    refine g_join (fun k => ∀ (h4 : aH), J_X5_covers l E n0 m0 57 [] [] h4 (k h4)) (fun h4 => ?_) (fun k57 hk57 => ?_)
    · refine g_iconst (pc := 57) dX5_covers_57 ci_1 ?_
      refine g_goto (pc := 58) (tgt := 62) dX5_covers_58 rfl ?_
      exact hk62 (1 : Int32) h4
    refine g_icmple (pc := 46) (tgt := 57) dX5_covers_46 rfl ?_ ?_
    · refine g_lv [] rfl ?_
      exact hk57 h0
    · refine g_iload_n (pc := 49) dX5_covers_49 0 rfl ?_
      refine g_aload_n (pc := 50) dX5_covers_50 1 rfl ?_
      refine g_geti (pc := 51) cl5 (Nat.le_of_ble_eq_true rfl) fk93 (fun _ _ _ => rfl) dX5_covers_51 (fun x14 => ?_)
      refine g_icmpge (pc := 54) (tgt := 61) dX5_covers_54 rfl ?_ ?_
      · refine g_lv [] rfl ?_
        exact hk57 h0
      · refine g_iconst (pc := 61) dX5_covers_61 ci_0 ?_
        refine g_lv [] rfl ?_
        exact hk62 (0 : Int32) h0
theorem p_X5_covers {l : Launch} {E : aE} (hl : l.stackTraces = false) (x1 : Nat) (x2 : Int32) (h0 : aH) : MO (fun (v : Int32) => .inl (some (.int v))) l E yX5_covers (.code yX5_covers cX5_covers 3 (some .boolean)) 0 0 [.ref (e_z E + x1), .int x2] h0 (m_X5_covers x1 x2 h0) := g_met hl (by decide +kernel) (Nat.le_of_ble_eq_true rfl) (b_X5_covers hl _ _ x1 x2 h0)
theorem dX10_arrivalOf_0 : decode cX10_arrivalOf 0 = .ok (.aload_n 0, 1) := by decide +kernel
theorem dX10_arrivalOf_1 : decode cX10_arrivalOf 1 = .ok (.getfield 52, 3) := by decide +kernel
theorem dX10_arrivalOf_4 : decode cX10_arrivalOf 4 = .ok (.getfield 133, 3) := by decide +kernel
theorem dX10_arrivalOf_7 : decode cX10_arrivalOf 7 = .ok (.iload_n 1, 1) := by decide +kernel
theorem dX10_arrivalOf_8 : decode cX10_arrivalOf 8 = .ok (.aaload, 1) := by decide +kernel
theorem dX10_arrivalOf_9 : decode cX10_arrivalOf 9 = .ok (.getfield 137, 3) := by decide +kernel
theorem dX10_arrivalOf_12 : decode cX10_arrivalOf 12 = .ok (.aload_n 0, 1) := by decide +kernel
theorem dX10_arrivalOf_13 : decode cX10_arrivalOf 13 = .ok (.getfield 52, 3) := by decide +kernel
theorem dX10_arrivalOf_16 : decode cX10_arrivalOf 16 = .ok (.getfield 111, 3) := by decide +kernel
theorem dX10_arrivalOf_19 : decode cX10_arrivalOf 19 = .ok (.aload_n 0, 1) := by decide +kernel
theorem dX10_arrivalOf_20 : decode cX10_arrivalOf 20 = .ok (.getfield 56, 3) := by decide +kernel
theorem dX10_arrivalOf_23 : decode cX10_arrivalOf 23 = .ok (.invokevirtual 142, 3) := by decide +kernel
theorem dX10_arrivalOf_26 : decode cX10_arrivalOf 26 = .ok (.ifCond .eq 16, 3) := by decide +kernel
theorem dX10_arrivalOf_29 : decode cX10_arrivalOf 29 = .ok (.aload_n 0, 1) := by decide +kernel
theorem dX10_arrivalOf_30 : decode cX10_arrivalOf 30 = .ok (.getfield 52, 3) := by decide +kernel
theorem dX10_arrivalOf_33 : decode cX10_arrivalOf 33 = .ok (.getfield 111, 3) := by decide +kernel
theorem dX10_arrivalOf_36 : decode cX10_arrivalOf 36 = .ok (.getfield 145, 3) := by decide +kernel
theorem dX10_arrivalOf_39 : decode cX10_arrivalOf 39 = .ok (.goto 4, 3) := by decide +kernel
theorem dX10_arrivalOf_42 : decode cX10_arrivalOf 42 = .ok (.iconst 0, 1) := by decide +kernel
theorem dX10_arrivalOf_43 : decode cX10_arrivalOf 43 = .ok (.iadd, 1) := by decide +kernel
theorem dX10_arrivalOf_44 : decode cX10_arrivalOf 44 = .ok (.ireturn, 1) := by decide +kernel
abbrev M_X10_arrivalOf : aM := (yX10_arrivalOf.cls, cX10_arrivalOf, 2, (some .int), [], yX10_arrivalOf.name == "<init>")
abbrev J_X10_arrivalOf (l : Launch) (E : aE) (n0 m0 : Nat) := GG (fun (v : Int32) => .inl (some (.int v))) l E M_X10_arrivalOf 1 22 n0 m0
theorem b_X10_arrivalOf {l : Launch} {E : aE} (hl : l.stackTraces = false) (n0 m0 : Nat) (x1 : Nat) (x2 : Int32) (h0 : aH) : J_X10_arrivalOf l E n0 m0 0 [(0, .ref (e_z E + x1)), (1, .int x2)] [] h0 (m_X10_arrivalOf x1 x2 h0) := by
  unfold m_X10_arrivalOf
  refine g_aload_n (pc := 0) dX10_arrivalOf_0 0 rfl ?_
  refine g_getr (pc := 1) cl10 (Nat.le_of_ble_eq_true rfl) fk348 (fun _ _ _ => rfl) dX10_arrivalOf_1 (fun x3 => ?_)
  refine g_getr (pc := 4) cl8 (Nat.le_of_ble_eq_true rfl) fk244 (fun _ _ _ => rfl) dX10_arrivalOf_4 (fun x4 => ?_)
  refine g_iload_n (pc := 7) dX10_arrivalOf_7 1 rfl ?_
  refine g_aald (pc := 8) (t := 5) (Nat.le_of_ble_eq_true rfl) (Nat.le_of_ble_eq_true rfl) dX10_arrivalOf_8 (fun x5 => ?_)
  refine g_geti (pc := 9) cl7 (Nat.le_of_ble_eq_true rfl) fk122 (fun _ _ _ => rfl) dX10_arrivalOf_9 (fun x6 => ?_)
  refine g_aload_n (pc := 12) dX10_arrivalOf_12 0 rfl ?_
  refine g_getr (pc := 13) cl10 (Nat.le_of_ble_eq_true rfl) fk348 (fun _ _ _ => rfl) dX10_arrivalOf_13 (fun x7 => ?_)
  refine g_getr (pc := 16) cl8 (Nat.le_of_ble_eq_true rfl) fk236 (fun _ _ _ => rfl) dX10_arrivalOf_16 (fun x8 => ?_)
  refine g_aload_n (pc := 19) dX10_arrivalOf_19 0 rfl ?_
  refine g_geti (pc := 20) cl10 (Nat.le_of_ble_eq_true rfl) fk349 (fun _ _ _ => rfl) dX10_arrivalOf_20 (fun x9 => ?_)
  refine g_gS (fun hs => ?_)
  refine g_bRi (pc := 23) (c_VN cl5 hs (p_X5_covers hl x8 x9 h0) y_X5_covers tw983 dX10_arrivalOf_23 rfl (st := [.int x6]) rfl (Nat.le_of_ble_eq_true rfl) (Nat.le_of_ble_eq_true rfl) (Nat.le_of_ble_eq_true rfl)) (fun x10 h1 => ?_)
  refine g_join (fun k => ∀ (x11 : Int32) (h2 : aH), J_X10_arrivalOf l E n0 m0 43 [] [.int x11, .int x6] h2 (k x11 h2)) (fun x11 h2 => ?_) (fun k43 hk43 => ?_)
  · refine g_iadd (pc := 43) dX10_arrivalOf_43 ?_
    exact g_ret (pc := 44) rfl (isRet_i _) dX10_arrivalOf_44 rfl
  refine g_ifeq (pc := 26) (tgt := 42) dX10_arrivalOf_26 rfl ?_ ?_
  · refine g_iconst (pc := 42) dX10_arrivalOf_42 ci_0 ?_
    refine g_lv [] rfl ?_
    exact hk43 (0 : Int32) h1
  · refine g_aload_n (pc := 29) dX10_arrivalOf_29 0 rfl ?_
    refine g_getr (pc := 30) cl10 (Nat.le_of_ble_eq_true rfl) fk348 (fun _ _ _ => rfl) dX10_arrivalOf_30 (fun x12 => ?_)
    refine g_getr (pc := 33) cl8 (Nat.le_of_ble_eq_true rfl) fk236 (fun _ _ _ => rfl) dX10_arrivalOf_33 (fun x13 => ?_)
    refine g_geti (pc := 36) cl5 (Nat.le_of_ble_eq_true rfl) fk95 (fun _ _ _ => rfl) dX10_arrivalOf_36 (fun x14 => ?_)
    refine g_goto (pc := 39) (tgt := 43) dX10_arrivalOf_39 rfl ?_
    refine g_lv [] rfl ?_
    exact hk43 x14 h1
theorem p_X10_arrivalOf {l : Launch} {E : aE} (hl : l.stackTraces = false) (x1 : Nat) (x2 : Int32) (h0 : aH) : MO (fun (v : Int32) => .inl (some (.int v))) l E yX10_arrivalOf (.code yX10_arrivalOf cX10_arrivalOf 2 (some .int)) 1 22 [.ref (e_z E + x1), .int x2] h0 (m_X10_arrivalOf x1 x2 h0) := g_met hl (by decide +kernel) (Nat.le_of_ble_eq_true rfl) (b_X10_arrivalOf hl _ _ x1 x2 h0)
theorem dX11_has_0 : decode cX11_has 0 = .ok (.iload_n 0, 1) := by decide +kernel
theorem dX11_has_1 : decode cX11_has 1 = .ok (.iload_n 1, 1) := by decide +kernel
theorem dX11_has_2 : decode cX11_has 2 = .ok (.ishr, 1) := by decide +kernel
theorem dX11_has_3 : decode cX11_has 3 = .ok (.iconst 1, 1) := by decide +kernel
theorem dX11_has_4 : decode cX11_has 4 = .ok (.iand, 1) := by decide +kernel
theorem dX11_has_5 : decode cX11_has 5 = .ok (.ifCond .eq 7, 3) := by decide +kernel
theorem dX11_has_8 : decode cX11_has 8 = .ok (.iconst 1, 1) := by decide +kernel
theorem dX11_has_9 : decode cX11_has 9 = .ok (.goto 4, 3) := by decide +kernel
theorem dX11_has_12 : decode cX11_has 12 = .ok (.iconst 0, 1) := by decide +kernel
theorem dX11_has_13 : decode cX11_has 13 = .ok (.ireturn, 1) := by decide +kernel
abbrev M_X11_has : aM := (yX11_has.cls, cX11_has, 2, (some .boolean), [], yX11_has.name == "<init>")
abbrev J_X11_has (l : Launch) (E : aE) (n0 m0 : Nat) := GG (fun (v : Int32) => .inl (some (.int v))) l E M_X11_has 0 0 n0 m0
theorem b_X11_has {l : Launch} {E : aE} (hl : l.stackTraces = false) (n0 m0 : Nat) (x1 : Int32) (x2 : Int32) (h0 : aH) : J_X11_has l E n0 m0 0 [(0, .int x1), (1, .int x2)] [] h0 (m_X11_has x1 x2 h0) := by
  unfold m_X11_has
  refine g_iload_n (pc := 0) dX11_has_0 0 rfl ?_
  refine g_iload_n (pc := 1) dX11_has_1 1 rfl ?_
  refine g_ishr (pc := 2) dX11_has_2 ?_
  refine g_iconst (pc := 3) dX11_has_3 ci_1 ?_
  refine g_iand (pc := 4) dX11_has_4 ?_
  refine g_join (fun k => ∀ (x3 : Int32) (h1 : aH), J_X11_has l E n0 m0 13 [] [.int x3] h1 (k x3 h1)) (fun x3 h1 => ?_) (fun k13 hk13 => ?_)
  · refine g_zO (fun hz => ?_)
    exact g_ret (pc := 13) rfl (isRet_z hz) dX11_has_13 rfl
  refine g_ifeq (pc := 5) (tgt := 12) dX11_has_5 rfl ?_ ?_
  · refine g_iconst (pc := 12) dX11_has_12 ci_0 ?_
    refine g_lv [] rfl ?_
    exact hk13 (0 : Int32) h0
  · refine g_iconst (pc := 8) dX11_has_8 ci_1 ?_
    refine g_goto (pc := 9) (tgt := 13) dX11_has_9 rfl ?_
    refine g_lv [] rfl ?_
    exact hk13 (1 : Int32) h0
theorem p_X11_has {l : Launch} {E : aE} (hl : l.stackTraces = false) (x1 : Int32) (x2 : Int32) (h0 : aH) : MO (fun (v : Int32) => .inl (some (.int v))) l E yX11_has (.code yX11_has cX11_has 2 (some .boolean)) 0 0 [.int x1, .int x2] h0 (m_X11_has x1 x2 h0) := g_met hl (by decide +kernel) (Nat.le_of_ble_eq_true rfl) (b_X11_has hl _ _ x1 x2 h0)
theorem dX10_isOut_0 : decode cX10_isOut 0 = .ok (.aload_n 0, 1) := by decide +kernel
theorem dX10_isOut_1 : decode cX10_isOut 1 = .ok (.getfield 15, 3) := by decide +kernel
theorem dX10_isOut_4 : decode cX10_isOut 4 = .ok (.iload_n 1, 1) := by decide +kernel
theorem dX10_isOut_5 : decode cX10_isOut 5 = .ok (.iaload, 1) := by decide +kernel
theorem dX10_isOut_6 : decode cX10_isOut 6 = .ok (.aload_n 0, 1) := by decide +kernel
theorem dX10_isOut_7 : decode cX10_isOut 7 = .ok (.getfield 56, 3) := by decide +kernel
theorem dX10_isOut_10 : decode cX10_isOut 10 = .ok (.if_icmp .le 7, 3) := by decide +kernel
theorem dX10_isOut_13 : decode cX10_isOut 13 = .ok (.iconst 1, 1) := by decide +kernel
theorem dX10_isOut_14 : decode cX10_isOut 14 = .ok (.goto 4, 3) := by decide +kernel
theorem dX10_isOut_17 : decode cX10_isOut 17 = .ok (.iconst 0, 1) := by decide +kernel
theorem dX10_isOut_18 : decode cX10_isOut 18 = .ok (.ireturn, 1) := by decide +kernel
abbrev M_X10_isOut : aM := (yX10_isOut.cls, cX10_isOut, 2, (some .boolean), [], yX10_isOut.name == "<init>")
abbrev J_X10_isOut (l : Launch) (E : aE) (n0 m0 : Nat) := GG (fun (v : Int32) => .inl (some (.int v))) l E M_X10_isOut 0 0 n0 m0
theorem b_X10_isOut {l : Launch} {E : aE} (hl : l.stackTraces = false) (n0 m0 : Nat) (x1 : Nat) (x2 : Int32) (h0 : aH) : J_X10_isOut l E n0 m0 0 [(0, .ref (e_z E + x1)), (1, .int x2)] [] h0 (m_X10_isOut x1 x2 h0) := by
  unfold m_X10_isOut
  refine g_aload_n (pc := 0) dX10_isOut_0 0 rfl ?_
  refine g_getr (pc := 1) cl10 (Nat.le_of_ble_eq_true rfl) fk354 (fun _ _ _ => rfl) dX10_isOut_1 (fun x3 => ?_)
  refine g_iload_n (pc := 4) dX10_isOut_4 1 rfl ?_
  refine g_iald (pc := 5) dX10_isOut_5 (fun x4 => ?_)
  refine g_aload_n (pc := 6) dX10_isOut_6 0 rfl ?_
  refine g_geti (pc := 7) cl10 (Nat.le_of_ble_eq_true rfl) fk349 (fun _ _ _ => rfl) dX10_isOut_7 (fun x5 => ?_)
  refine g_join (fun k => ∀ (x6 : Int32) (h1 : aH), J_X10_isOut l E n0 m0 18 [] [.int x6] h1 (k x6 h1)) (fun x6 h1 => ?_) (fun k18 hk18 => ?_)
  · refine g_zO (fun hz => ?_)
    exact g_ret (pc := 18) rfl (isRet_z hz) dX10_isOut_18 rfl
  refine g_icmple (pc := 10) (tgt := 17) dX10_isOut_10 rfl ?_ ?_
  · refine g_iconst (pc := 17) dX10_isOut_17 ci_0 ?_
    refine g_lv [] rfl ?_
    exact hk18 (0 : Int32) h0
  · refine g_iconst (pc := 13) dX10_isOut_13 ci_1 ?_
    refine g_goto (pc := 14) (tgt := 18) dX10_isOut_14 rfl ?_
    refine g_lv [] rfl ?_
    exact hk18 (1 : Int32) h0
theorem p_X10_isOut {l : Launch} {E : aE} (hl : l.stackTraces = false) (x1 : Nat) (x2 : Int32) (h0 : aH) : MO (fun (v : Int32) => .inl (some (.int v))) l E yX10_isOut (.code yX10_isOut cX10_isOut 2 (some .boolean)) 0 0 [.ref (e_z E + x1), .int x2] h0 (m_X10_isOut x1 x2 h0) := g_met hl (by decide +kernel) (Nat.le_of_ble_eq_true rfl) (b_X10_isOut hl _ _ x1 x2 h0)
theorem dX10_isTired_0 : decode cX10_isTired 0 = .ok (.aload_n 0, 1) := by decide +kernel
theorem dX10_isTired_1 : decode cX10_isTired 1 = .ok (.getfield 9, 3) := by decide +kernel
theorem dX10_isTired_4 : decode cX10_isTired 4 = .ok (.iload_n 1, 1) := by decide +kernel
theorem dX10_isTired_5 : decode cX10_isTired 5 = .ok (.iaload, 1) := by decide +kernel
theorem dX10_isTired_6 : decode cX10_isTired 6 = .ok (.aload_n 0, 1) := by decide +kernel
theorem dX10_isTired_7 : decode cX10_isTired 7 = .ok (.getfield 52, 3) := by decide +kernel
theorem dX10_isTired_10 : decode cX10_isTired 10 = .ok (.getfield 111, 3) := by decide +kernel
theorem dX10_isTired_13 : decode cX10_isTired 13 = .ok (.getfield 115, 3) := by decide +kernel
theorem dX10_isTired_16 : decode cX10_isTired 16 = .ok (.if_icmp .lt 7, 3) := by decide +kernel
theorem dX10_isTired_19 : decode cX10_isTired 19 = .ok (.iconst 1, 1) := by decide +kernel
theorem dX10_isTired_20 : decode cX10_isTired 20 = .ok (.goto 4, 3) := by decide +kernel
theorem dX10_isTired_23 : decode cX10_isTired 23 = .ok (.iconst 0, 1) := by decide +kernel
theorem dX10_isTired_24 : decode cX10_isTired 24 = .ok (.ireturn, 1) := by decide +kernel
abbrev M_X10_isTired : aM := (yX10_isTired.cls, cX10_isTired, 2, (some .boolean), [], yX10_isTired.name == "<init>")
abbrev J_X10_isTired (l : Launch) (E : aE) (n0 m0 : Nat) := GG (fun (v : Int32) => .inl (some (.int v))) l E M_X10_isTired 0 0 n0 m0
theorem b_X10_isTired {l : Launch} {E : aE} (hl : l.stackTraces = false) (n0 m0 : Nat) (x1 : Nat) (x2 : Int32) (h0 : aH) : J_X10_isTired l E n0 m0 0 [(0, .ref (e_z E + x1)), (1, .int x2)] [] h0 (m_X10_isTired x1 x2 h0) := by
  unfold m_X10_isTired
  refine g_aload_n (pc := 0) dX10_isTired_0 0 rfl ?_
  refine g_getr (pc := 1) cl10 (Nat.le_of_ble_eq_true rfl) fk352 (fun _ _ _ => rfl) dX10_isTired_1 (fun x3 => ?_)
  refine g_iload_n (pc := 4) dX10_isTired_4 1 rfl ?_
  refine g_iald (pc := 5) dX10_isTired_5 (fun x4 => ?_)
  refine g_aload_n (pc := 6) dX10_isTired_6 0 rfl ?_
  refine g_getr (pc := 7) cl10 (Nat.le_of_ble_eq_true rfl) fk348 (fun _ _ _ => rfl) dX10_isTired_7 (fun x5 => ?_)
  refine g_getr (pc := 10) cl8 (Nat.le_of_ble_eq_true rfl) fk236 (fun _ _ _ => rfl) dX10_isTired_10 (fun x6 => ?_)
  refine g_geti (pc := 13) cl5 (Nat.le_of_ble_eq_true rfl) fk97 (fun _ _ _ => rfl) dX10_isTired_13 (fun x7 => ?_)
  refine g_join (fun k => ∀ (x8 : Int32) (h1 : aH), J_X10_isTired l E n0 m0 24 [] [.int x8] h1 (k x8 h1)) (fun x8 h1 => ?_) (fun k24 hk24 => ?_)
  · refine g_zO (fun hz => ?_)
    exact g_ret (pc := 24) rfl (isRet_z hz) dX10_isTired_24 rfl
  refine g_icmplt (pc := 16) (tgt := 23) dX10_isTired_16 rfl ?_ ?_
  · refine g_iconst (pc := 23) dX10_isTired_23 ci_0 ?_
    refine g_lv [] rfl ?_
    exact hk24 (0 : Int32) h0
  · refine g_iconst (pc := 19) dX10_isTired_19 ci_1 ?_
    refine g_goto (pc := 20) (tgt := 24) dX10_isTired_20 rfl ?_
    refine g_lv [] rfl ?_
    exact hk24 (1 : Int32) h0
theorem p_X10_isTired {l : Launch} {E : aE} (hl : l.stackTraces = false) (x1 : Nat) (x2 : Int32) (h0 : aH) : MO (fun (v : Int32) => .inl (some (.int v))) l E yX10_isTired (.code yX10_isTired cX10_isTired 2 (some .boolean)) 0 0 [.ref (e_z E + x1), .int x2] h0 (m_X10_isTired x1 x2 h0) := g_met hl (by decide +kernel) (Nat.le_of_ble_eq_true rfl) (b_X10_isTired hl _ _ x1 x2 h0)
theorem dX4_absenceOfHolder_0 : decode cX4_absenceOfHolder 0 = .ok (.aload_n 0, 1) := by decide +kernel
theorem dX4_absenceOfHolder_1 : decode cX4_absenceOfHolder 1 = .ok (.getfield 33, 3) := by decide +kernel
theorem dX4_absenceOfHolder_4 : decode cX4_absenceOfHolder 4 = .ok (.getfield 102, 3) := by decide +kernel
theorem dX4_absenceOfHolder_7 : decode cX4_absenceOfHolder 7 = .ok (.iload_n 1, 1) := by decide +kernel
theorem dX4_absenceOfHolder_8 : decode cX4_absenceOfHolder 8 = .ok (.invokestatic 92, 3) := by decide +kernel
theorem dX4_absenceOfHolder_11 : decode cX4_absenceOfHolder 11 = .ok (.ifCond .eq 5, 3) := by decide +kernel
theorem dX4_absenceOfHolder_14 : decode cX4_absenceOfHolder 14 = .ok (.iconst 2, 1) := by decide +kernel
theorem dX4_absenceOfHolder_15 : decode cX4_absenceOfHolder 15 = .ok (.ireturn, 1) := by decide +kernel
theorem dX4_absenceOfHolder_16 : decode cX4_absenceOfHolder 16 = .ok (.aload_n 0, 1) := by decide +kernel
theorem dX4_absenceOfHolder_17 : decode cX4_absenceOfHolder 17 = .ok (.getfield 33, 3) := by decide +kernel
theorem dX4_absenceOfHolder_20 : decode cX4_absenceOfHolder 20 = .ok (.iload_n 1, 1) := by decide +kernel
theorem dX4_absenceOfHolder_21 : decode cX4_absenceOfHolder 21 = .ok (.invokevirtual 105, 3) := by decide +kernel
theorem dX4_absenceOfHolder_24 : decode cX4_absenceOfHolder 24 = .ok (.ifCond .eq 5, 3) := by decide +kernel
theorem dX4_absenceOfHolder_27 : decode cX4_absenceOfHolder 27 = .ok (.iconst 3, 1) := by decide +kernel
theorem dX4_absenceOfHolder_28 : decode cX4_absenceOfHolder 28 = .ok (.ireturn, 1) := by decide +kernel
theorem dX4_absenceOfHolder_29 : decode cX4_absenceOfHolder 29 = .ok (.aload_n 0, 1) := by decide +kernel
theorem dX4_absenceOfHolder_30 : decode cX4_absenceOfHolder 30 = .ok (.getfield 33, 3) := by decide +kernel
theorem dX4_absenceOfHolder_33 : decode cX4_absenceOfHolder 33 = .ok (.iload_n 1, 1) := by decide +kernel
theorem dX4_absenceOfHolder_34 : decode cX4_absenceOfHolder 34 = .ok (.invokevirtual 109, 3) := by decide +kernel
theorem dX4_absenceOfHolder_37 : decode cX4_absenceOfHolder 37 = .ok (.ifCond .eq 5, 3) := by decide +kernel
theorem dX4_absenceOfHolder_40 : decode cX4_absenceOfHolder 40 = .ok (.iconst 4, 1) := by decide +kernel
theorem dX4_absenceOfHolder_41 : decode cX4_absenceOfHolder 41 = .ok (.ireturn, 1) := by decide +kernel
theorem dX4_absenceOfHolder_42 : decode cX4_absenceOfHolder 42 = .ok (.aload_n 0, 1) := by decide +kernel
theorem dX4_absenceOfHolder_43 : decode cX4_absenceOfHolder 43 = .ok (.getfield 15, 3) := by decide +kernel
theorem dX4_absenceOfHolder_46 : decode cX4_absenceOfHolder 46 = .ok (.iload_n 1, 1) := by decide +kernel
theorem dX4_absenceOfHolder_47 : decode cX4_absenceOfHolder 47 = .ok (.iaload, 1) := by decide +kernel
theorem dX4_absenceOfHolder_48 : decode cX4_absenceOfHolder 48 = .ok (.iload_n 2, 1) := by decide +kernel
theorem dX4_absenceOfHolder_49 : decode cX4_absenceOfHolder 49 = .ok (.if_icmp .le 7, 3) := by decide +kernel
theorem dX4_absenceOfHolder_52 : decode cX4_absenceOfHolder 52 = .ok (.iconst 5, 1) := by decide +kernel
theorem dX4_absenceOfHolder_53 : decode cX4_absenceOfHolder 53 = .ok (.goto 4, 3) := by decide +kernel
theorem dX4_absenceOfHolder_56 : decode cX4_absenceOfHolder 56 = .ok (.iconst 0, 1) := by decide +kernel
theorem dX4_absenceOfHolder_57 : decode cX4_absenceOfHolder 57 = .ok (.ireturn, 1) := by decide +kernel
abbrev M_X4_absenceOfHolder : aM := (yX4_absenceOfHolder.cls, cX4_absenceOfHolder, 3, (some .int), [], yX4_absenceOfHolder.name == "<init>")
abbrev J_X4_absenceOfHolder (l : Launch) (E : aE) (n0 m0 : Nat) := GG (fun (v : Int32) => .inl (some (.int v))) l E M_X4_absenceOfHolder 1 21 n0 m0
theorem b_X4_absenceOfHolder {l : Launch} {E : aE} (hl : l.stackTraces = false) (n0 m0 : Nat) (x1 : Nat) (x2 : Int32) (x3 : Int32) (h0 : aH) : J_X4_absenceOfHolder l E n0 m0 0 [(0, .ref (e_z E + x1)), (1, .int x2), (2, .int x3)] [] h0 (m_X4_absenceOfHolder x1 x2 x3 h0) := by
  unfold m_X4_absenceOfHolder
  refine g_aload_n (pc := 0) dX4_absenceOfHolder_0 0 rfl ?_
  refine g_getr (pc := 1) cl4 (Nat.le_of_ble_eq_true rfl) fk421 (fun _ _ _ => rfl) dX4_absenceOfHolder_1 (fun x4 => ?_)
  refine g_geti (pc := 4) cl10 (Nat.le_of_ble_eq_true rfl) fk359 (fun _ _ _ => rfl) dX4_absenceOfHolder_4 (fun x5 => ?_)
  refine g_iload_n (pc := 7) dX4_absenceOfHolder_7 1 rfl ?_
  refine g_bRi (pc := 8) (c_SN (p_X11_has hl x5 x2 h0) y_X11_has tw1234 dX4_absenceOfHolder_8 rfl (st := []) rfl (Nat.le_of_ble_eq_true rfl) (Nat.le_of_ble_eq_true rfl) (Nat.le_of_ble_eq_true rfl)) (fun x6 h1 => ?_)
  refine g_ifeq (pc := 11) (tgt := 16) dX4_absenceOfHolder_11 rfl ?_ ?_
  · refine g_aload_n (pc := 16) dX4_absenceOfHolder_16 0 rfl ?_
    refine g_getr (pc := 17) cl4 (Nat.le_of_ble_eq_true rfl) fk421 (fun _ _ _ => rfl) dX4_absenceOfHolder_17 (fun x7 => ?_)
    refine g_iload_n (pc := 20) dX4_absenceOfHolder_20 1 rfl ?_
    refine g_gS (fun hs => ?_)
    refine g_bRi (pc := 21) (c_VN cl10 hs (p_X10_isOut hl x7 x2 h1) y_X10_isOut tw1239 dX4_absenceOfHolder_21 rfl (st := []) rfl (Nat.le_of_ble_eq_true rfl) (Nat.le_of_ble_eq_true rfl) (Nat.le_of_ble_eq_true rfl)) (fun x8 h2 => ?_)
    refine g_ifeq (pc := 24) (tgt := 29) dX4_absenceOfHolder_24 rfl ?_ ?_
    · refine g_aload_n (pc := 29) dX4_absenceOfHolder_29 0 rfl ?_
      refine g_getr (pc := 30) cl4 (Nat.le_of_ble_eq_true rfl) fk421 (fun _ _ _ => rfl) dX4_absenceOfHolder_30 (fun x9 => ?_)
      refine g_iload_n (pc := 33) dX4_absenceOfHolder_33 1 rfl ?_
      refine g_gS (fun hs => ?_)
      refine g_bRi (pc := 34) (c_VN cl10 hs (p_X10_isTired hl x9 x2 h2) y_X10_isTired tw1240 dX4_absenceOfHolder_34 rfl (st := []) rfl (Nat.le_of_ble_eq_true rfl) (Nat.le_of_ble_eq_true rfl) (Nat.le_of_ble_eq_true rfl)) (fun x10 h3 => ?_)
      refine g_ifeq (pc := 37) (tgt := 42) dX4_absenceOfHolder_37 rfl ?_ ?_
      · refine g_aload_n (pc := 42) dX4_absenceOfHolder_42 0 rfl ?_
        refine g_getr (pc := 43) cl4 (Nat.le_of_ble_eq_true rfl) fk425 (fun _ _ _ => rfl) dX4_absenceOfHolder_43 (fun x11 => ?_)
        refine g_iload_n (pc := 46) dX4_absenceOfHolder_46 1 rfl ?_
        refine g_iald (pc := 47) dX4_absenceOfHolder_47 (fun x12 => ?_)
        refine g_iload_n (pc := 48) dX4_absenceOfHolder_48 2 rfl ?_
        refine g_join (fun k => ∀ (x13 : Int32) (h4 : aH), J_X4_absenceOfHolder l E n0 m0 57 [] [.int x13] h4 (k x13 h4)) (fun x13 h4 => ?_) (fun k57 hk57 => ?_)
        · exact g_ret (pc := 57) rfl (isRet_i _) dX4_absenceOfHolder_57 rfl
        refine g_icmple (pc := 49) (tgt := 56) dX4_absenceOfHolder_49 rfl ?_ ?_
        · refine g_iconst (pc := 56) dX4_absenceOfHolder_56 ci_0 ?_
          refine g_lv [] rfl ?_
          exact hk57 (0 : Int32) h3
        · refine g_iconst (pc := 52) dX4_absenceOfHolder_52 ci_5 ?_
          refine g_goto (pc := 53) (tgt := 57) dX4_absenceOfHolder_53 rfl ?_
          refine g_lv [] rfl ?_
          exact hk57 (5 : Int32) h3
      · refine g_iconst (pc := 40) dX4_absenceOfHolder_40 ci_4 ?_
        exact g_ret (pc := 41) rfl (isRet_i _) dX4_absenceOfHolder_41 rfl
    · refine g_iconst (pc := 27) dX4_absenceOfHolder_27 ci_3 ?_
      exact g_ret (pc := 28) rfl (isRet_i _) dX4_absenceOfHolder_28 rfl
  · refine g_iconst (pc := 14) dX4_absenceOfHolder_14 ci_2 ?_
    exact g_ret (pc := 15) rfl (isRet_i _) dX4_absenceOfHolder_15 rfl
theorem p_X4_absenceOfHolder {l : Launch} {E : aE} (hl : l.stackTraces = false) (x1 : Nat) (x2 : Int32) (x3 : Int32) (h0 : aH) : MO (fun (v : Int32) => .inl (some (.int v))) l E yX4_absenceOfHolder (.code yX4_absenceOfHolder cX4_absenceOfHolder 3 (some .int)) 1 21 [.ref (e_z E + x1), .int x2, .int x3] h0 (m_X4_absenceOfHolder x1 x2 x3 h0) := g_met hl (by decide +kernel) (Nat.le_of_ble_eq_true rfl) (b_X4_absenceOfHolder hl _ _ x1 x2 x3 h0)
theorem dX4_alert_0 : decode cX4_alert 0 = .ok (.iconst 0, 1) := by decide +kernel
theorem dX4_alert_1 : decode cX4_alert 1 = .ok (.istore_n 2, 1) := by decide +kernel
theorem dX4_alert_2 : decode cX4_alert 2 = .ok (.iconst 0, 1) := by decide +kernel
theorem dX4_alert_3 : decode cX4_alert 3 = .ok (.istore_n 3, 1) := by decide +kernel
theorem dX4_alert_4 : decode cX4_alert 4 = .ok (.iload_n 3, 1) := by decide +kernel
theorem dX4_alert_5 : decode cX4_alert 5 = .ok (.aload_n 1, 1) := by decide +kernel
theorem dX4_alert_6 : decode cX4_alert 6 = .ok (.getfield 70, 3) := by decide +kernel
theorem dX4_alert_9 : decode cX4_alert 9 = .ok (.if_icmp .ge 34, 3) := by decide +kernel
theorem dX4_alert_12 : decode cX4_alert 12 = .ok (.iload_n 2, 1) := by decide +kernel
theorem dX4_alert_13 : decode cX4_alert 13 = .ok (.iconst 1, 1) := by decide +kernel
theorem dX4_alert_14 : decode cX4_alert 14 = .ok (.aload_n 0, 1) := by decide +kernel
theorem dX4_alert_15 : decode cX4_alert 15 = .ok (.getfield 33, 3) := by decide +kernel
theorem dX4_alert_18 : decode cX4_alert 18 = .ok (.aload_n 1, 1) := by decide +kernel
theorem dX4_alert_19 : decode cX4_alert 19 = .ok (.getfield 73, 3) := by decide +kernel
theorem dX4_alert_22 : decode cX4_alert 22 = .ok (.iload_n 3, 1) := by decide +kernel
theorem dX4_alert_23 : decode cX4_alert 23 = .ok (.iaload, 1) := by decide +kernel
theorem dX4_alert_24 : decode cX4_alert 24 = .ok (.aload_n 0, 1) := by decide +kernel
theorem dX4_alert_25 : decode cX4_alert 25 = .ok (.getfield 33, 3) := by decide +kernel
theorem dX4_alert_28 : decode cX4_alert 28 = .ok (.getfield 76, 3) := by decide +kernel
theorem dX4_alert_31 : decode cX4_alert 31 = .ok (.invokevirtual 79, 3) := by decide +kernel
theorem dX4_alert_34 : decode cX4_alert 34 = .ok (.ishl, 1) := by decide +kernel
theorem dX4_alert_35 : decode cX4_alert 35 = .ok (.ior, 1) := by decide +kernel
theorem dX4_alert_36 : decode cX4_alert 36 = .ok (.istore_n 2, 1) := by decide +kernel
theorem dX4_alert_37 : decode cX4_alert 37 = .ok (.iinc 3 1, 3) := by decide +kernel
theorem dX4_alert_40 : decode cX4_alert 40 = .ok (.goto (-36), 3) := by decide +kernel
theorem dX4_alert_43 : decode cX4_alert 43 = .ok (.aload_n 0, 1) := by decide +kernel
theorem dX4_alert_44 : decode cX4_alert 44 = .ok (.iconst 0, 1) := by decide +kernel
theorem dX4_alert_45 : decode cX4_alert 45 = .ok (.putfield 48, 3) := by decide +kernel
theorem dX4_alert_48 : decode cX4_alert 48 = .ok (.iconst 0, 1) := by decide +kernel
theorem dX4_alert_49 : decode cX4_alert 49 = .ok (.istore_n 3, 1) := by decide +kernel
theorem dX4_alert_50 : decode cX4_alert 50 = .ok (.iload_n 3, 1) := by decide +kernel
theorem dX4_alert_51 : decode cX4_alert 51 = .ok (.aload_n 0, 1) := by decide +kernel
theorem dX4_alert_52 : decode cX4_alert 52 = .ok (.getfield 43, 3) := by decide +kernel
theorem dX4_alert_55 : decode cX4_alert 55 = .ok (.getfield 83, 3) := by decide +kernel
theorem dX4_alert_58 : decode cX4_alert 58 = .ok (.if_icmp .ge 71, 3) := by decide +kernel
theorem dX4_alert_61 : decode cX4_alert 61 = .ok (.aload_n 0, 1) := by decide +kernel
theorem dX4_alert_62 : decode cX4_alert 62 = .ok (.getfield 15, 3) := by decide +kernel
theorem dX4_alert_65 : decode cX4_alert 65 = .ok (.iload_n 3, 1) := by decide +kernel
theorem dX4_alert_66 : decode cX4_alert 66 = .ok (.aload_n 0, 1) := by decide +kernel
theorem dX4_alert_67 : decode cX4_alert 67 = .ok (.getfield 33, 3) := by decide +kernel
theorem dX4_alert_70 : decode cX4_alert 70 = .ok (.iload_n 3, 1) := by decide +kernel
theorem dX4_alert_71 : decode cX4_alert 71 = .ok (.invokevirtual 88, 3) := by decide +kernel
theorem dX4_alert_74 : decode cX4_alert 74 = .ok (.iastore, 1) := by decide +kernel
theorem dX4_alert_75 : decode cX4_alert 75 = .ok (.aload_n 0, 1) := by decide +kernel
theorem dX4_alert_76 : decode cX4_alert 76 = .ok (.getfield 9, 3) := by decide +kernel
theorem dX4_alert_79 : decode cX4_alert 79 = .ok (.iload_n 3, 1) := by decide +kernel
theorem dX4_alert_80 : decode cX4_alert 80 = .ok (.iload_n 2, 1) := by decide +kernel
theorem dX4_alert_81 : decode cX4_alert 81 = .ok (.iload_n 3, 1) := by decide +kernel
theorem dX4_alert_82 : decode cX4_alert 82 = .ok (.invokestatic 92, 3) := by decide +kernel
theorem dX4_alert_85 : decode cX4_alert 85 = .ok (.ifCond .eq 15, 3) := by decide +kernel
theorem dX4_alert_88 : decode cX4_alert 88 = .ok (.aload_n 0, 1) := by decide +kernel
theorem dX4_alert_89 : decode cX4_alert 89 = .ok (.iload_n 3, 1) := by decide +kernel
theorem dX4_alert_90 : decode cX4_alert 90 = .ok (.aload_n 1, 1) := by decide +kernel
theorem dX4_alert_91 : decode cX4_alert 91 = .ok (.getfield 96, 3) := by decide +kernel
theorem dX4_alert_94 : decode cX4_alert 94 = .ok (.invokevirtual 99, 3) := by decide +kernel
theorem dX4_alert_97 : decode cX4_alert 97 = .ok (.goto 4, 3) := by decide +kernel
theorem dX4_alert_100 : decode cX4_alert 100 = .ok (.iconst 1, 1) := by decide +kernel
theorem dX4_alert_101 : decode cX4_alert 101 = .ok (.iastore, 1) := by decide +kernel
theorem dX4_alert_102 : decode cX4_alert 102 = .ok (.aload_n 0, 1) := by decide +kernel
theorem dX4_alert_103 : decode cX4_alert 103 = .ok (.getfield 9, 3) := by decide +kernel
theorem dX4_alert_106 : decode cX4_alert 106 = .ok (.iload_n 3, 1) := by decide +kernel
theorem dX4_alert_107 : decode cX4_alert 107 = .ok (.iaload, 1) := by decide +kernel
theorem dX4_alert_108 : decode cX4_alert 108 = .ok (.ifCond .ne 15, 3) := by decide +kernel
theorem dX4_alert_111 : decode cX4_alert 111 = .ok (.aload_n 0, 1) := by decide +kernel
theorem dX4_alert_112 : decode cX4_alert 112 = .ok (.dup, 1) := by decide +kernel
theorem dX4_alert_113 : decode cX4_alert 113 = .ok (.getfield 48, 3) := by decide +kernel
theorem dX4_alert_116 : decode cX4_alert 116 = .ok (.iconst 1, 1) := by decide +kernel
theorem dX4_alert_117 : decode cX4_alert 117 = .ok (.iload_n 3, 1) := by decide +kernel
theorem dX4_alert_118 : decode cX4_alert 118 = .ok (.ishl, 1) := by decide +kernel
theorem dX4_alert_119 : decode cX4_alert 119 = .ok (.ior, 1) := by decide +kernel
theorem dX4_alert_120 : decode cX4_alert 120 = .ok (.putfield 48, 3) := by decide +kernel
theorem dX4_alert_123 : decode cX4_alert 123 = .ok (.iinc 3 1, 3) := by decide +kernel
theorem dX4_alert_126 : decode cX4_alert 126 = .ok (.goto (-76), 3) := by decide +kernel
theorem dX4_alert_129 : decode cX4_alert 129 = .ok (.return_, 1) := by decide +kernel
abbrev M_X4_alert : aM := (yX4_alert.cls, cX4_alert, 4, none, [], yX4_alert.name == "<init>")
abbrev J_X4_alert (l : Launch) (E : aE) (n0 m0 : Nat) := GG (fun (_ : Unit) => .inl none) l E M_X4_alert 3 76 n0 m0
theorem b_X4_alert {l : Launch} {E : aE} (hl : l.stackTraces = false) (n0 m0 : Nat) (x1 : Nat) (x2 : Nat) (h0 : aH) : J_X4_alert l E n0 m0 0 [(0, .ref (e_z E + x1)), (1, .ref (e_z E + x2))] [] h0 (m_X4_alert x1 x2 h0) := by
  unfold m_X4_alert
  refine g_iconst (pc := 0) dX4_alert_0 ci_0 ?_
  refine g_istore_n (pc := 1) (lv' := [(2, .int (0 : Int32)), (0, .ref (e_z E + x1)), (1, .ref (e_z E + x2))]) dX4_alert_1 (Nat.le_of_ble_eq_true rfl) rfl ?_
  refine g_iconst (pc := 2) dX4_alert_2 ci_0 ?_
  refine g_istore_n (pc := 3) (lv' := [(3, .int (0 : Int32)), (2, .int (0 : Int32)), (0, .ref (e_z E + x1)), (1, .ref (e_z E + x2))]) dX4_alert_3 (Nat.le_of_ble_eq_true rfl) rfl ?_
  refine g_join (fun k => ∀ (x3 : Int32) (h1 : aH), J_X4_alert l E n0 m0 43 [(0, .ref (e_z E + x1)), (1, .ref (e_z E + x2)), (2, .int x3)] [] h1 (k x3 h1)) (fun x3 h1 => ?_) (fun k43 hk43 => ?_)
  · refine g_aload_n (pc := 43) dX4_alert_43 0 rfl ?_
    refine g_iconst (pc := 44) dX4_alert_44 ci_0 ?_
    refine g_puti (pc := 45) cl4 (Nat.le_of_ble_eq_true rfl) (Or.inl ⟨rfl, fk426⟩) (fun _ _ _ => rfl) (fun _ => ⟨rfl, rfl⟩) dX4_alert_45 (fun h2 => ?_)
    refine g_iconst (pc := 48) dX4_alert_48 ci_0 ?_
    refine g_istore_n (pc := 49) (lv' := [(3, .int (0 : Int32)), (0, .ref (e_z E + x1)), (1, .ref (e_z E + x2)), (2, .int x3)]) dX4_alert_49 (Nat.le_of_ble_eq_true rfl) rfl ?_
    refine g_join (fun k => ∀ (h3 : aH), J_X4_alert l E n0 m0 129 [] [] h3 (k h3)) (fun h3 => ?_) (fun k129 hk129 => ?_)
    · exact g_ret (pc := 129) rfl isRet_v dX4_alert_129 rfl
    refine g_lv [1, 2, 3, 0] rfl ?_
    refine g_loop1 (F := (m_X4_alert_L50 x1 x2 x3 k129)) (fun x4 => [(0, .ref (e_z E + x1)), (1, .ref (e_z E + x2)), (2, .int x3), (3, .int x4)]) (fun r50 hr50 x4 h4 => ?_) _ _ _
    unfold m_X4_alert_L50
    refine g_iload_n (pc := 50) dX4_alert_50 3 rfl ?_
    refine g_aload_n (pc := 51) dX4_alert_51 0 rfl ?_
    refine g_getr (pc := 52) cl4 (Nat.le_of_ble_eq_true rfl) fk422 (fun _ _ _ => rfl) dX4_alert_52 (fun x5 => ?_)
    refine g_geti (pc := 55) cl8 (Nat.le_of_ble_eq_true rfl) fk239 (fun _ _ _ => rfl) dX4_alert_55 (fun x6 => ?_)
    refine g_icmpge (pc := 58) (tgt := 129) dX4_alert_58 rfl ?_ ?_
    · refine g_aload_n (pc := 61) dX4_alert_61 0 rfl ?_
      refine g_getr (pc := 62) cl4 (Nat.le_of_ble_eq_true rfl) fk425 (fun _ _ _ => rfl) dX4_alert_62 (fun x7 => ?_)
      refine g_iload_n (pc := 65) dX4_alert_65 3 rfl ?_
      refine g_aload_n (pc := 66) dX4_alert_66 0 rfl ?_
      refine g_getr (pc := 67) cl4 (Nat.le_of_ble_eq_true rfl) fk421 (fun _ _ _ => rfl) dX4_alert_67 (fun x8 => ?_)
      refine g_iload_n (pc := 70) dX4_alert_70 3 rfl ?_
      refine g_gS (fun hs => ?_)
      refine g_bRi (pc := 71) (c_VN cl10 hs (p_X10_arrivalOf hl x8 x4 h4) y_X10_arrivalOf tw1233 dX4_alert_71 rfl (st := [.int x4, .ref (e_z E + x7)]) rfl (Nat.le_of_ble_eq_true rfl) (Nat.le_of_ble_eq_true rfl) (Nat.le_of_ble_eq_true rfl)) (fun x9 h5 => ?_)
      refine g_iast (pc := 74) dX4_alert_74 (fun h6 => ?_)
      refine g_aload_n (pc := 75) dX4_alert_75 0 rfl ?_
      refine g_getr (pc := 76) cl4 (Nat.le_of_ble_eq_true rfl) fk423 (fun _ _ _ => rfl) dX4_alert_76 (fun x10 => ?_)
      refine g_iload_n (pc := 79) dX4_alert_79 3 rfl ?_
      refine g_iload_n (pc := 80) dX4_alert_80 2 rfl ?_
      refine g_iload_n (pc := 81) dX4_alert_81 3 rfl ?_
      refine g_bRi (pc := 82) (c_SN (p_X11_has hl x3 x4 h6) y_X11_has tw1234 dX4_alert_82 rfl (st := [.int x4, .ref (e_z E + x10)]) rfl (Nat.le_of_ble_eq_true rfl) (Nat.le_of_ble_eq_true rfl) (Nat.le_of_ble_eq_true rfl)) (fun x11 h7 => ?_)
      refine g_join (fun k => ∀ (x12 : Int32) (h8 : aH), J_X4_alert l E n0 m0 101 [(0, .ref (e_z E + x1)), (1, .ref (e_z E + x2)), (2, .int x3), (3, .int x4)] [.int x12, .int x4, .ref (e_z E + x10)] h8 (k x12 h8)) (fun x12 h8 => ?_) (fun k101 hk101 => ?_)
      · refine g_iast (pc := 101) dX4_alert_101 (fun h9 => ?_)
        refine g_aload_n (pc := 102) dX4_alert_102 0 rfl ?_
        refine g_getr (pc := 103) cl4 (Nat.le_of_ble_eq_true rfl) fk423 (fun _ _ _ => rfl) dX4_alert_103 (fun x13 => ?_)
        refine g_iload_n (pc := 106) dX4_alert_106 3 rfl ?_
        refine g_iald (pc := 107) dX4_alert_107 (fun x14 => ?_)
        refine g_join (fun k => ∀ (h10 : aH), J_X4_alert l E n0 m0 123 [(0, .ref (e_z E + x1)), (1, .ref (e_z E + x2)), (2, .int x3), (3, .int x4)] [] h10 (k h10)) (fun h10 => ?_) (fun k123 hk123 => ?_)
        · refine g_iincN (pc := 123) dX4_alert_123 3 rfl ci_1 (Nat.le_of_ble_eq_true rfl) (fun x15 => ?_)
          refine g_lvr (lv' := [(3, .int x15), (0, .ref (e_z E + x1)), (1, .ref (e_z E + x2)), (2, .int x3)]) rfl ?_
          refine g_goto (pc := 126) (tgt := 50) dX4_alert_126 rfl ?_
          refine g_lv [1, 2, 3, 0] rfl ?_
          exact hr50 x15 h10
        refine g_ifne (pc := 108) (tgt := 123) dX4_alert_108 rfl ?_ ?_
        · refine g_aload_n (pc := 111) dX4_alert_111 0 rfl ?_
          refine g_dup (pc := 112) rfl dX4_alert_112 ?_
          refine g_geti (pc := 113) cl4 (Nat.le_of_ble_eq_true rfl) fk426 (fun _ _ _ => rfl) dX4_alert_113 (fun x16 => ?_)
          refine g_iconst (pc := 116) dX4_alert_116 ci_1 ?_
          refine g_iload_n (pc := 117) dX4_alert_117 3 rfl ?_
          refine g_ishl (pc := 118) dX4_alert_118 ?_
          refine g_ior (pc := 119) dX4_alert_119 ?_
          refine g_puti (pc := 120) cl4 (Nat.le_of_ble_eq_true rfl) (Or.inl ⟨rfl, fk426⟩) (fun _ _ _ => rfl) (fun _ => ⟨rfl, rfl⟩) dX4_alert_120 (fun h11 => ?_)
          exact hk123 h11
        · exact hk123 h9
      refine g_ifeq (pc := 85) (tgt := 100) dX4_alert_85 rfl ?_ ?_
      · refine g_iconst (pc := 100) dX4_alert_100 ci_1 ?_
        exact hk101 (1 : Int32) h7
      · refine g_aload_n (pc := 88) dX4_alert_88 0 rfl ?_
        refine g_iload_n (pc := 89) dX4_alert_89 3 rfl ?_
        refine g_aload_n (pc := 90) dX4_alert_90 1 rfl ?_
        refine g_geti (pc := 91) cl3 (Nat.le_of_ble_eq_true rfl) fk201 (fun _ _ _ => rfl) dX4_alert_91 (fun x17 => ?_)
        refine g_gS (fun hs => ?_)
        refine g_bRi (pc := 94) (c_V cl4 hs (p_X4_absenceOfHolder hl x1 x4 x17 h7) y_X4_absenceOfHolder tw1235 dX4_alert_94 rfl (st := [.int x4, .ref (e_z E + x10)]) rfl (Nat.le_of_ble_eq_true rfl) (Nat.le_of_ble_eq_true rfl) (Nat.le_of_ble_eq_true rfl)) (fun x18 h12 => ?_)
        refine g_goto (pc := 97) (tgt := 101) dX4_alert_97 rfl ?_
        exact hk101 x18 h12
    · refine g_lv [] rfl ?_
      exact hk129 h4
  refine g_lv [2, 3, 1, 0] rfl ?_
  refine g_loop2 (F := (m_X4_alert_L4 x1 x2 k43)) (fun x19 x20 => [(0, .ref (e_z E + x1)), (1, .ref (e_z E + x2)), (2, .int x19), (3, .int x20)]) (fun r4 hr4 x19 x20 h13 => ?_) _ _ _ _
  unfold m_X4_alert_L4
  refine g_iload_n (pc := 4) dX4_alert_4 3 rfl ?_
  refine g_aload_n (pc := 5) dX4_alert_5 1 rfl ?_
  refine g_geti (pc := 6) cl3 (Nat.le_of_ble_eq_true rfl) fk205 (fun _ _ _ => rfl) dX4_alert_6 (fun x21 => ?_)
  refine g_icmpge (pc := 9) (tgt := 43) dX4_alert_9 rfl ?_ ?_
  · refine g_iload_n (pc := 12) dX4_alert_12 2 rfl ?_
    refine g_iconst (pc := 13) dX4_alert_13 ci_1 ?_
    refine g_aload_n (pc := 14) dX4_alert_14 0 rfl ?_
    refine g_getr (pc := 15) cl4 (Nat.le_of_ble_eq_true rfl) fk421 (fun _ _ _ => rfl) dX4_alert_15 (fun x22 => ?_)
    refine g_aload_n (pc := 18) dX4_alert_18 1 rfl ?_
    refine g_getr (pc := 19) cl3 (Nat.le_of_ble_eq_true rfl) fk208 (fun _ _ _ => rfl) dX4_alert_19 (fun x23 => ?_)
    refine g_iload_n (pc := 22) dX4_alert_22 3 rfl ?_
    refine g_iald (pc := 23) dX4_alert_23 (fun x24 => ?_)
    refine g_aload_n (pc := 24) dX4_alert_24 0 rfl ?_
    refine g_getr (pc := 25) cl4 (Nat.le_of_ble_eq_true rfl) fk421 (fun _ _ _ => rfl) dX4_alert_25 (fun x25 => ?_)
    refine g_geti (pc := 28) cl10 (Nat.le_of_ble_eq_true rfl) fk350 (fun _ _ _ => rfl) dX4_alert_28 (fun x26 => ?_)
    refine g_gS (fun hs => ?_)
    refine g_bRi (pc := 31) (c_VN cl10 hs (p_X10_holderThen hl x22 x24 x26 h13) y_X10_holderThen tw1232 dX4_alert_31 rfl (st := [.int (1 : Int32), .int x19]) rfl (Nat.le_of_ble_eq_true rfl) (Nat.le_of_ble_eq_true rfl) (Nat.le_of_ble_eq_true rfl)) (fun x27 h14 => ?_)
    refine g_ishl (pc := 34) dX4_alert_34 ?_
    refine g_ior (pc := 35) dX4_alert_35 ?_
    refine g_topi (fun x28 => ?_)
    refine g_istore_n (pc := 36) (lv' := [(2, .int x28), (0, .ref (e_z E + x1)), (1, .ref (e_z E + x2)), (3, .int x20)]) dX4_alert_36 (Nat.le_of_ble_eq_true rfl) rfl ?_
    refine g_iincN (pc := 37) dX4_alert_37 3 rfl ci_1 (Nat.le_of_ble_eq_true rfl) (fun x29 => ?_)
    refine g_lvr (lv' := [(3, .int x29), (2, .int x28), (0, .ref (e_z E + x1)), (1, .ref (e_z E + x2))]) rfl ?_
    refine g_goto (pc := 40) (tgt := 4) dX4_alert_40 rfl ?_
    refine g_lv [2, 3, 1, 0] rfl ?_
    exact hr4 x28 x29 h14
  · refine g_lv [0, 1, 2] rfl ?_
    exact hk43 x19 h13
theorem p_X4_alert {l : Launch} {E : aE} (hl : l.stackTraces = false) (x1 : Nat) (x2 : Nat) (h0 : aH) : MO (fun (_ : Unit) => .inl none) l E yX4_alert (.code yX4_alert cX4_alert 4 none) 3 76 [.ref (e_z E + x1), .ref (e_z E + x2)] h0 (m_X4_alert x1 x2 h0) := g_met hl (by decide +kernel) (Nat.le_of_ble_eq_true rfl) (b_X4_alert hl _ _ x1 x2 h0)
theorem dJ6_bitCount_0f7a4_0 : decode cJ6_bitCount_0f7a4 0 = .ok (.iload_n 0, 1) := by decide +kernel
theorem dJ6_bitCount_0f7a4_1 : decode cJ6_bitCount_0f7a4 1 = .ok (.iload_n 0, 1) := by decide +kernel
theorem dJ6_bitCount_0f7a4_2 : decode cJ6_bitCount_0f7a4 2 = .ok (.iconst 1, 1) := by decide +kernel
theorem dJ6_bitCount_0f7a4_3 : decode cJ6_bitCount_0f7a4 3 = .ok (.iushr, 1) := by decide +kernel
theorem dJ6_bitCount_0f7a4_4 : decode cJ6_bitCount_0f7a4 4 = .ok (.ldc_w 265, 3) := by decide +kernel
theorem dJ6_bitCount_0f7a4_7 : decode cJ6_bitCount_0f7a4 7 = .ok (.iand, 1) := by decide +kernel
theorem dJ6_bitCount_0f7a4_8 : decode cJ6_bitCount_0f7a4 8 = .ok (.isub, 1) := by decide +kernel
theorem dJ6_bitCount_0f7a4_9 : decode cJ6_bitCount_0f7a4 9 = .ok (.istore_n 0, 1) := by decide +kernel
theorem dJ6_bitCount_0f7a4_10 : decode cJ6_bitCount_0f7a4 10 = .ok (.iload_n 0, 1) := by decide +kernel
theorem dJ6_bitCount_0f7a4_11 : decode cJ6_bitCount_0f7a4 11 = .ok (.ldc_w 266, 3) := by decide +kernel
theorem dJ6_bitCount_0f7a4_14 : decode cJ6_bitCount_0f7a4 14 = .ok (.iand, 1) := by decide +kernel
theorem dJ6_bitCount_0f7a4_15 : decode cJ6_bitCount_0f7a4 15 = .ok (.iload_n 0, 1) := by decide +kernel
theorem dJ6_bitCount_0f7a4_16 : decode cJ6_bitCount_0f7a4 16 = .ok (.iconst 2, 1) := by decide +kernel
theorem dJ6_bitCount_0f7a4_17 : decode cJ6_bitCount_0f7a4 17 = .ok (.iushr, 1) := by decide +kernel
theorem dJ6_bitCount_0f7a4_18 : decode cJ6_bitCount_0f7a4 18 = .ok (.ldc_w 266, 3) := by decide +kernel
theorem dJ6_bitCount_0f7a4_21 : decode cJ6_bitCount_0f7a4 21 = .ok (.iand, 1) := by decide +kernel
theorem dJ6_bitCount_0f7a4_22 : decode cJ6_bitCount_0f7a4 22 = .ok (.iadd, 1) := by decide +kernel
theorem dJ6_bitCount_0f7a4_23 : decode cJ6_bitCount_0f7a4 23 = .ok (.istore_n 0, 1) := by decide +kernel
theorem dJ6_bitCount_0f7a4_24 : decode cJ6_bitCount_0f7a4 24 = .ok (.iload_n 0, 1) := by decide +kernel
theorem dJ6_bitCount_0f7a4_25 : decode cJ6_bitCount_0f7a4 25 = .ok (.iload_n 0, 1) := by decide +kernel
theorem dJ6_bitCount_0f7a4_26 : decode cJ6_bitCount_0f7a4 26 = .ok (.iconst 4, 1) := by decide +kernel
theorem dJ6_bitCount_0f7a4_27 : decode cJ6_bitCount_0f7a4 27 = .ok (.iushr, 1) := by decide +kernel
theorem dJ6_bitCount_0f7a4_28 : decode cJ6_bitCount_0f7a4 28 = .ok (.iadd, 1) := by decide +kernel
theorem dJ6_bitCount_0f7a4_29 : decode cJ6_bitCount_0f7a4 29 = .ok (.ldc_w 267, 3) := by decide +kernel
theorem dJ6_bitCount_0f7a4_32 : decode cJ6_bitCount_0f7a4 32 = .ok (.iand, 1) := by decide +kernel
theorem dJ6_bitCount_0f7a4_33 : decode cJ6_bitCount_0f7a4 33 = .ok (.istore_n 0, 1) := by decide +kernel
theorem dJ6_bitCount_0f7a4_34 : decode cJ6_bitCount_0f7a4 34 = .ok (.iload_n 0, 1) := by decide +kernel
theorem dJ6_bitCount_0f7a4_35 : decode cJ6_bitCount_0f7a4 35 = .ok (.iload_n 0, 1) := by decide +kernel
theorem dJ6_bitCount_0f7a4_36 : decode cJ6_bitCount_0f7a4 36 = .ok (.bipush 8, 2) := by decide +kernel
theorem dJ6_bitCount_0f7a4_38 : decode cJ6_bitCount_0f7a4 38 = .ok (.iushr, 1) := by decide +kernel
theorem dJ6_bitCount_0f7a4_39 : decode cJ6_bitCount_0f7a4 39 = .ok (.iadd, 1) := by decide +kernel
theorem dJ6_bitCount_0f7a4_40 : decode cJ6_bitCount_0f7a4 40 = .ok (.istore_n 0, 1) := by decide +kernel
theorem dJ6_bitCount_0f7a4_41 : decode cJ6_bitCount_0f7a4 41 = .ok (.iload_n 0, 1) := by decide +kernel
theorem dJ6_bitCount_0f7a4_42 : decode cJ6_bitCount_0f7a4 42 = .ok (.iload_n 0, 1) := by decide +kernel
theorem dJ6_bitCount_0f7a4_43 : decode cJ6_bitCount_0f7a4 43 = .ok (.bipush 16, 2) := by decide +kernel
theorem dJ6_bitCount_0f7a4_45 : decode cJ6_bitCount_0f7a4 45 = .ok (.iushr, 1) := by decide +kernel
theorem dJ6_bitCount_0f7a4_46 : decode cJ6_bitCount_0f7a4 46 = .ok (.iadd, 1) := by decide +kernel
theorem dJ6_bitCount_0f7a4_47 : decode cJ6_bitCount_0f7a4 47 = .ok (.istore_n 0, 1) := by decide +kernel
theorem dJ6_bitCount_0f7a4_48 : decode cJ6_bitCount_0f7a4 48 = .ok (.iload_n 0, 1) := by decide +kernel
theorem dJ6_bitCount_0f7a4_49 : decode cJ6_bitCount_0f7a4 49 = .ok (.bipush 63, 2) := by decide +kernel
theorem dJ6_bitCount_0f7a4_51 : decode cJ6_bitCount_0f7a4 51 = .ok (.iand, 1) := by decide +kernel
theorem dJ6_bitCount_0f7a4_52 : decode cJ6_bitCount_0f7a4 52 = .ok (.ireturn, 1) := by decide +kernel
abbrev M_J6_bitCount_0f7a4 : aM := (yJ6_bitCount_0f7a4.cls, cJ6_bitCount_0f7a4, 1, (some .int), [], yJ6_bitCount_0f7a4.name == "<init>")
abbrev J_J6_bitCount_0f7a4 (l : Launch) (E : aE) (n0 m0 : Nat) := GG (fun (v : Int32) => .inl (some (.int v))) l E M_J6_bitCount_0f7a4 0 0 n0 m0
theorem b_J6_bitCount_0f7a4 {l : Launch} {E : aE} (hl : l.stackTraces = false) (n0 m0 : Nat) (x1 : Int32) (h0 : aH) : J_J6_bitCount_0f7a4 l E n0 m0 0 [(0, .int x1)] [] h0 (m_J6_bitCount_0f7a4 x1 h0) := by
  unfold m_J6_bitCount_0f7a4
  refine g_iload_n (pc := 0) dJ6_bitCount_0f7a4_0 0 rfl ?_
  refine g_iload_n (pc := 1) dJ6_bitCount_0f7a4_1 0 rfl ?_
  refine g_iconst (pc := 2) dJ6_bitCount_0f7a4_2 ci_1 ?_
  refine g_iushr (pc := 3) dJ6_bitCount_0f7a4_3 ?_
  refine g_ldc_w (pc := 4) tw1252 dJ6_bitCount_0f7a4_4 ?_
  refine g_iand (pc := 7) dJ6_bitCount_0f7a4_7 ?_
  refine g_isub (pc := 8) dJ6_bitCount_0f7a4_8 ?_
  refine g_topi (fun x2 => ?_)
  refine g_istore_n (pc := 9) (lv' := [(0, .int x2)]) dJ6_bitCount_0f7a4_9 (Nat.le_of_ble_eq_true rfl) rfl ?_
  refine g_iload_n (pc := 10) dJ6_bitCount_0f7a4_10 0 rfl ?_
  refine g_ldc_w (pc := 11) tw1253 dJ6_bitCount_0f7a4_11 ?_
  refine g_iand (pc := 14) dJ6_bitCount_0f7a4_14 ?_
  refine g_iload_n (pc := 15) dJ6_bitCount_0f7a4_15 0 rfl ?_
  refine g_iconst (pc := 16) dJ6_bitCount_0f7a4_16 ci_2 ?_
  refine g_iushr (pc := 17) dJ6_bitCount_0f7a4_17 ?_
  refine g_ldc_w (pc := 18) tw1253 dJ6_bitCount_0f7a4_18 ?_
  refine g_iand (pc := 21) dJ6_bitCount_0f7a4_21 ?_
  refine g_iadd (pc := 22) dJ6_bitCount_0f7a4_22 ?_
  refine g_topi (fun x3 => ?_)
  refine g_istore_n (pc := 23) (lv' := [(0, .int x3)]) dJ6_bitCount_0f7a4_23 (Nat.le_of_ble_eq_true rfl) rfl ?_
  refine g_iload_n (pc := 24) dJ6_bitCount_0f7a4_24 0 rfl ?_
  refine g_iload_n (pc := 25) dJ6_bitCount_0f7a4_25 0 rfl ?_
  refine g_iconst (pc := 26) dJ6_bitCount_0f7a4_26 ci_4 ?_
  refine g_iushr (pc := 27) dJ6_bitCount_0f7a4_27 ?_
  refine g_iadd (pc := 28) dJ6_bitCount_0f7a4_28 ?_
  refine g_ldc_w (pc := 29) tw1254 dJ6_bitCount_0f7a4_29 ?_
  refine g_iand (pc := 32) dJ6_bitCount_0f7a4_32 ?_
  refine g_topi (fun x4 => ?_)
  refine g_istore_n (pc := 33) (lv' := [(0, .int x4)]) dJ6_bitCount_0f7a4_33 (Nat.le_of_ble_eq_true rfl) rfl ?_
  refine g_iload_n (pc := 34) dJ6_bitCount_0f7a4_34 0 rfl ?_
  refine g_iload_n (pc := 35) dJ6_bitCount_0f7a4_35 0 rfl ?_
  refine g_bipush (pc := 36) dJ6_bitCount_0f7a4_36 cb_8 ?_
  refine g_iushr (pc := 38) dJ6_bitCount_0f7a4_38 ?_
  refine g_iadd (pc := 39) dJ6_bitCount_0f7a4_39 ?_
  refine g_topi (fun x5 => ?_)
  refine g_istore_n (pc := 40) (lv' := [(0, .int x5)]) dJ6_bitCount_0f7a4_40 (Nat.le_of_ble_eq_true rfl) rfl ?_
  refine g_iload_n (pc := 41) dJ6_bitCount_0f7a4_41 0 rfl ?_
  refine g_iload_n (pc := 42) dJ6_bitCount_0f7a4_42 0 rfl ?_
  refine g_bipush (pc := 43) dJ6_bitCount_0f7a4_43 cb_16 ?_
  refine g_iushr (pc := 45) dJ6_bitCount_0f7a4_45 ?_
  refine g_iadd (pc := 46) dJ6_bitCount_0f7a4_46 ?_
  refine g_topi (fun x6 => ?_)
  refine g_istore_n (pc := 47) (lv' := [(0, .int x6)]) dJ6_bitCount_0f7a4_47 (Nat.le_of_ble_eq_true rfl) rfl ?_
  refine g_iload_n (pc := 48) dJ6_bitCount_0f7a4_48 0 rfl ?_
  refine g_bipush (pc := 49) dJ6_bitCount_0f7a4_49 cb_63 ?_
  refine g_iand (pc := 51) dJ6_bitCount_0f7a4_51 ?_
  exact g_ret (pc := 52) rfl (isRet_i _) dJ6_bitCount_0f7a4_52 rfl
theorem p_J6_bitCount_0f7a4 {l : Launch} {E : aE} (hl : l.stackTraces = false) (x1 : Int32) (h0 : aH) : MO (fun (v : Int32) => .inl (some (.int v))) l E yJ6_bitCount_0f7a4 (.code yJ6_bitCount_0f7a4 cJ6_bitCount_0f7a4 1 (some .int)) 0 0 [.int x1] h0 (m_J6_bitCount_0f7a4 x1 h0) := g_met hl (by decide +kernel) (Nat.le_of_ble_eq_true rfl) (b_J6_bitCount_0f7a4 hl _ _ x1 h0)
theorem dX8_mostManned_0 : decode cX8_mostManned 0 = .ok (.aload_n 1, 1) := by decide +kernel
theorem dX8_mostManned_1 : decode cX8_mostManned 1 = .ok (.bipush 31, 2) := by decide +kernel
theorem dX8_mostManned_3 : decode cX8_mostManned 3 = .ok (.iaload, 1) := by decide +kernel
theorem dX8_mostManned_4 : decode cX8_mostManned 4 = .ok (.istore_n 3, 1) := by decide +kernel
theorem dX8_mostManned_5 : decode cX8_mostManned 5 = .ok (.iconst 0, 1) := by decide +kernel
theorem dX8_mostManned_6 : decode cX8_mostManned 6 = .ok (.istore 4, 2) := by decide +kernel
theorem dX8_mostManned_8 : decode cX8_mostManned 8 = .ok (.iload 4, 2) := by decide +kernel
theorem dX8_mostManned_10 : decode cX8_mostManned 10 = .ok (.bipush 32, 2) := by decide +kernel
theorem dX8_mostManned_12 : decode cX8_mostManned 12 = .ok (.if_icmp .ge 40, 3) := by decide +kernel
theorem dX8_mostManned_15 : decode cX8_mostManned 15 = .ok (.aload_n 1, 1) := by decide +kernel
theorem dX8_mostManned_16 : decode cX8_mostManned 16 = .ok (.bipush 31, 2) := by decide +kernel
theorem dX8_mostManned_18 : decode cX8_mostManned 18 = .ok (.iaload, 1) := by decide +kernel
theorem dX8_mostManned_19 : decode cX8_mostManned 19 = .ok (.aload_n 1, 1) := by decide +kernel
theorem dX8_mostManned_20 : decode cX8_mostManned 20 = .ok (.iload 4, 2) := by decide +kernel
theorem dX8_mostManned_22 : decode cX8_mostManned 22 = .ok (.iaload, 1) := by decide +kernel
theorem dX8_mostManned_23 : decode cX8_mostManned 23 = .ok (.isub, 1) := by decide +kernel
theorem dX8_mostManned_24 : decode cX8_mostManned 24 = .ok (.istore 5, 2) := by decide +kernel
theorem dX8_mostManned_26 : decode cX8_mostManned 26 = .ok (.iload_n 3, 1) := by decide +kernel
theorem dX8_mostManned_27 : decode cX8_mostManned 27 = .ok (.iload 5, 2) := by decide +kernel
theorem dX8_mostManned_29 : decode cX8_mostManned 29 = .ok (.aload_n 0, 1) := by decide +kernel
theorem dX8_mostManned_30 : decode cX8_mostManned 30 = .ok (.getfield 46, 3) := by decide +kernel
theorem dX8_mostManned_33 : decode cX8_mostManned 33 = .ok (.iload 4, 2) := by decide +kernel
theorem dX8_mostManned_35 : decode cX8_mostManned 35 = .ok (.iaload, 1) := by decide +kernel
theorem dX8_mostManned_36 : decode cX8_mostManned 36 = .ok (.iload_n 2, 1) := by decide +kernel
theorem dX8_mostManned_37 : decode cX8_mostManned 37 = .ok (.iand, 1) := by decide +kernel
theorem dX8_mostManned_38 : decode cX8_mostManned 38 = .ok (.invokestatic 93, 3) := by decide +kernel
theorem dX8_mostManned_41 : decode cX8_mostManned 41 = .ok (.iadd, 1) := by decide +kernel
theorem dX8_mostManned_42 : decode cX8_mostManned 42 = .ok (.invokestatic 98, 3) := by decide +kernel
theorem dX8_mostManned_45 : decode cX8_mostManned 45 = .ok (.istore_n 3, 1) := by decide +kernel
theorem dX8_mostManned_46 : decode cX8_mostManned 46 = .ok (.iinc 4 1, 3) := by decide +kernel
theorem dX8_mostManned_49 : decode cX8_mostManned 49 = .ok (.goto (-41), 3) := by decide +kernel
theorem dX8_mostManned_52 : decode cX8_mostManned 52 = .ok (.iload_n 3, 1) := by decide +kernel
theorem dX8_mostManned_53 : decode cX8_mostManned 53 = .ok (.ireturn, 1) := by decide +kernel
abbrev M_X8_mostManned : aM := (yX8_mostManned.cls, cX8_mostManned, 6, (some .int), [], yX8_mostManned.name == "<init>")
abbrev J_X8_mostManned (l : Launch) (E : aE) (n0 m0 : Nat) := GG (fun (v : Int32) => .inl (some (.int v))) l E M_X8_mostManned 1 30 n0 m0
theorem b_X8_mostManned {l : Launch} {E : aE} (hl : l.stackTraces = false) (n0 m0 : Nat) (x1 : Nat) (x2 : Nat) (x3 : Int32) (h0 : aH) : J_X8_mostManned l E n0 m0 0 [(0, .ref (e_z E + x1)), (1, .ref (e_z E + x2)), (2, .int x3)] [] h0 (m_X8_mostManned x1 x2 x3 h0) := by
  unfold m_X8_mostManned
  refine g_aload_n (pc := 0) dX8_mostManned_0 1 rfl ?_
  refine g_bipush (pc := 1) dX8_mostManned_1 cb_31 ?_
  refine g_iald (pc := 3) dX8_mostManned_3 (fun x4 => ?_)
  refine g_istore_n (pc := 4) (lv' := [(3, .int x4), (0, .ref (e_z E + x1)), (1, .ref (e_z E + x2)), (2, .int x3)]) dX8_mostManned_4 (Nat.le_of_ble_eq_true rfl) rfl ?_
  refine g_iconst (pc := 5) dX8_mostManned_5 ci_0 ?_
  refine g_istore (pc := 6) (lv' := [(4, .int (0 : Int32)), (3, .int x4), (0, .ref (e_z E + x1)), (1, .ref (e_z E + x2)), (2, .int x3)]) dX8_mostManned_6 (Nat.le_of_ble_eq_true rfl) rfl ?_
  refine g_join (fun k => ∀ (x5 : Int32) (h1 : aH), J_X8_mostManned l E n0 m0 52 [(3, .int x5)] [] h1 (k x5 h1)) (fun x5 h1 => ?_) (fun k52 hk52 => ?_)
  · refine g_iload_n (pc := 52) dX8_mostManned_52 0 rfl ?_
    exact g_ret (pc := 53) rfl (isRet_i _) dX8_mostManned_53 rfl
  refine g_lv [2, 3, 4, 1, 0] rfl ?_
  refine g_loop2 (F := (m_X8_mostManned_L8 x1 x2 x3 k52)) (fun x6 x7 => [(0, .ref (e_z E + x1)), (1, .ref (e_z E + x2)), (2, .int x3), (3, .int x6), (4, .int x7)]) (fun r8 hr8 x6 x7 h2 => ?_) _ _ _ _
  unfold m_X8_mostManned_L8
  refine g_iload (pc := 8) dX8_mostManned_8 4 rfl ?_
  refine g_bipush (pc := 10) dX8_mostManned_10 cb_32 ?_
  refine g_icmpge (pc := 12) (tgt := 52) dX8_mostManned_12 rfl ?_ ?_
  · refine g_aload_n (pc := 15) dX8_mostManned_15 1 rfl ?_
    refine g_bipush (pc := 16) dX8_mostManned_16 cb_31 ?_
    refine g_iald (pc := 18) dX8_mostManned_18 (fun x8 => ?_)
    refine g_aload_n (pc := 19) dX8_mostManned_19 1 rfl ?_
    refine g_iload (pc := 20) dX8_mostManned_20 4 rfl ?_
    refine g_iald (pc := 22) dX8_mostManned_22 (fun x9 => ?_)
    refine g_isub (pc := 23) dX8_mostManned_23 ?_
    refine g_topi (fun x10 => ?_)
    refine g_istore (pc := 24) (lv' := [(5, .int x10), (0, .ref (e_z E + x1)), (1, .ref (e_z E + x2)), (2, .int x3), (3, .int x6), (4, .int x7)]) dX8_mostManned_24 (Nat.le_of_ble_eq_true rfl) rfl ?_
    refine g_iload_n (pc := 26) dX8_mostManned_26 4 rfl ?_
    refine g_iload (pc := 27) dX8_mostManned_27 0 rfl ?_
    refine g_aload_n (pc := 29) dX8_mostManned_29 1 rfl ?_
    refine g_getr (pc := 30) cl8 (Nat.le_of_ble_eq_true rfl) fk274 (fun _ _ _ => rfl) dX8_mostManned_30 (fun x11 => ?_)
    refine g_iload (pc := 33) dX8_mostManned_33 5 rfl ?_
    refine g_iald (pc := 35) dX8_mostManned_35 (fun x12 => ?_)
    refine g_iload_n (pc := 36) dX8_mostManned_36 3 rfl ?_
    refine g_iand (pc := 37) dX8_mostManned_37 ?_
    refine g_bRi (pc := 38) (c_S (p_J6_bitCount_0f7a4 hl (x12 &&& x3) h2) y_J6_bitCount_0f7a4 tw1249 dX8_mostManned_38 rfl (st := [.int x10, .int x6]) rfl (Nat.le_of_ble_eq_true rfl) (Nat.le_of_ble_eq_true rfl) (Nat.le_of_ble_eq_true rfl)) (fun x13 h3 => ?_)
    refine g_iadd (pc := 41) dX8_mostManned_41 ?_
    refine g_mmin (pc := 42) tw1255 tw651 tw19 tw652 (Nat.le_of_ble_eq_true rfl) (Nat.le_of_ble_eq_true rfl) dX8_mostManned_42 ?_
    refine g_topi (fun x14 => ?_)
    refine g_istore_n (pc := 45) (lv' := [(3, .int x14), (5, .int x10), (0, .ref (e_z E + x1)), (1, .ref (e_z E + x2)), (2, .int x3), (4, .int x7)]) dX8_mostManned_45 (Nat.le_of_ble_eq_true rfl) rfl ?_
    refine g_iincN (pc := 46) dX8_mostManned_46 5 rfl ci_1 (Nat.le_of_ble_eq_true rfl) (fun x15 => ?_)
    refine g_lvr (lv' := [(4, .int x15), (3, .int x14), (5, .int x10), (0, .ref (e_z E + x1)), (1, .ref (e_z E + x2)), (2, .int x3)]) rfl ?_
    refine g_goto (pc := 49) (tgt := 8) dX8_mostManned_49 rfl ?_
    refine g_lv [3, 4, 5, 1, 0] rfl ?_
    exact hr8 x14 x15 h3
  · refine g_lv [3] rfl ?_
    exact hk52 x6 h2
theorem p_X8_mostManned {l : Launch} {E : aE} (hl : l.stackTraces = false) (x1 : Nat) (x2 : Nat) (x3 : Int32) (h0 : aH) : MO (fun (v : Int32) => .inl (some (.int v))) l E yX8_mostManned (.code yX8_mostManned cX8_mostManned 6 (some .int)) 1 30 [.ref (e_z E + x1), .ref (e_z E + x2), .int x3] h0 (m_X8_mostManned x1 x2 x3 h0) := g_met hl (by decide +kernel) (Nat.le_of_ble_eq_true rfl) (b_X8_mostManned hl _ _ x1 x2 x3 h0)
theorem dX10_isEngineOut_0 : decode cX10_isEngineOut 0 = .ok (.aload_n 0, 1) := by decide +kernel
theorem dX10_isEngineOut_1 : decode cX10_isEngineOut 1 = .ok (.getfield 36, 3) := by decide +kernel
theorem dX10_isEngineOut_4 : decode cX10_isEngineOut 4 = .ok (.iload_n 1, 1) := by decide +kernel
theorem dX10_isEngineOut_5 : decode cX10_isEngineOut 5 = .ok (.iaload, 1) := by decide +kernel
theorem dX10_isEngineOut_6 : decode cX10_isEngineOut 6 = .ok (.aload_n 0, 1) := by decide +kernel
theorem dX10_isEngineOut_7 : decode cX10_isEngineOut 7 = .ok (.getfield 56, 3) := by decide +kernel
theorem dX10_isEngineOut_10 : decode cX10_isEngineOut 10 = .ok (.if_icmp .le 7, 3) := by decide +kernel
theorem dX10_isEngineOut_13 : decode cX10_isEngineOut 13 = .ok (.iconst 1, 1) := by decide +kernel
theorem dX10_isEngineOut_14 : decode cX10_isEngineOut 14 = .ok (.goto 4, 3) := by decide +kernel
theorem dX10_isEngineOut_17 : decode cX10_isEngineOut 17 = .ok (.iconst 0, 1) := by decide +kernel
theorem dX10_isEngineOut_18 : decode cX10_isEngineOut 18 = .ok (.ireturn, 1) := by decide +kernel
abbrev M_X10_isEngineOut : aM := (yX10_isEngineOut.cls, cX10_isEngineOut, 2, (some .boolean), [], yX10_isEngineOut.name == "<init>")
abbrev J_X10_isEngineOut (l : Launch) (E : aE) (n0 m0 : Nat) := GG (fun (v : Int32) => .inl (some (.int v))) l E M_X10_isEngineOut 0 0 n0 m0
theorem b_X10_isEngineOut {l : Launch} {E : aE} (hl : l.stackTraces = false) (n0 m0 : Nat) (x1 : Nat) (x2 : Int32) (h0 : aH) : J_X10_isEngineOut l E n0 m0 0 [(0, .ref (e_z E + x1)), (1, .int x2)] [] h0 (m_X10_isEngineOut x1 x2 h0) := by
  unfold m_X10_isEngineOut
  refine g_aload_n (pc := 0) dX10_isEngineOut_0 0 rfl ?_
  refine g_getr (pc := 1) cl10 (Nat.le_of_ble_eq_true rfl) fk370 (fun _ _ _ => rfl) dX10_isEngineOut_1 (fun x3 => ?_)
  refine g_iload_n (pc := 4) dX10_isEngineOut_4 1 rfl ?_
  refine g_iald (pc := 5) dX10_isEngineOut_5 (fun x4 => ?_)
  refine g_aload_n (pc := 6) dX10_isEngineOut_6 0 rfl ?_
  refine g_geti (pc := 7) cl10 (Nat.le_of_ble_eq_true rfl) fk349 (fun _ _ _ => rfl) dX10_isEngineOut_7 (fun x5 => ?_)
  refine g_join (fun k => ∀ (x6 : Int32) (h1 : aH), J_X10_isEngineOut l E n0 m0 18 [] [.int x6] h1 (k x6 h1)) (fun x6 h1 => ?_) (fun k18 hk18 => ?_)
  · refine g_zO (fun hz => ?_)
    exact g_ret (pc := 18) rfl (isRet_z hz) dX10_isEngineOut_18 rfl
  refine g_icmple (pc := 10) (tgt := 17) dX10_isEngineOut_10 rfl ?_ ?_
  · refine g_iconst (pc := 17) dX10_isEngineOut_17 ci_0 ?_
    refine g_lv [] rfl ?_
    exact hk18 (0 : Int32) h0
  · refine g_iconst (pc := 13) dX10_isEngineOut_13 ci_1 ?_
    refine g_goto (pc := 14) (tgt := 18) dX10_isEngineOut_14 rfl ?_
    refine g_lv [] rfl ?_
    exact hk18 (1 : Int32) h0
theorem p_X10_isEngineOut {l : Launch} {E : aE} (hl : l.stackTraces = false) (x1 : Nat) (x2 : Int32) (h0 : aH) : MO (fun (v : Int32) => .inl (some (.int v))) l E yX10_isEngineOut (.code yX10_isEngineOut cX10_isEngineOut 2 (some .boolean)) 0 0 [.ref (e_z E + x1), .int x2] h0 (m_X10_isEngineOut x1 x2 h0) := g_met hl (by decide +kernel) (Nat.le_of_ble_eq_true rfl) (b_X10_isEngineOut hl _ _ x1 x2 h0)
