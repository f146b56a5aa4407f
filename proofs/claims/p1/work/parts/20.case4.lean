set_option maxHeartbeats 40000000 in
set_option maxRecDepth 100000 in
theorem lawc_27 {p : Program} {e : Env} {s : State} {m : MethodId} {below : List Frame} {meth : Method} {c : Code} (l : Launch) {sc : Nat} {xs : Nat → Int32} {A : Nat → Prop} {dC : Nat → ClassId} {dI : Nat → Nat → Nat} {cy : Nat → ClassId} {a b : Nat → Nat} {g : Nat → Nat → Option Nat} (hAe : A = fun q => s.heap.size ≤ q) (C0 : lw_At p s m meth c sc 6 xs) (hC : cK dC dI cy s) {H : Heap} {locs : List Loc} {ls : Array Slot} (hP : va_P (dC, dI) vwCl (fw a cy g ++ mw b cy) H) (hD : va_D A (fw a cy g ++ mw b cy)) (hS : va_S A s.heap H locs) (hl : lv_has ls 4 [(3, .int 0), (2, .ref (b 0)), (1, .ref (a 0)), (0, .ref sc)]) : W p l e room_1 s m #[Value.ref sc] below meth c H locs 1000 100000 (lw_Z below #[Value.ref sc] s) (F0 m 947 ls []) := by
  obtain ⟨hx, hb, hr, hml, hown, hts0, hX, hbl, hlocks, -⟩ := C0
  have hown : s.vm.findClass RL = some m.cls := hown
  have hts : ∀ w ∈ v_L_law, w.before #[Value.ref sc] s = true := fun w h => hts0 w (v_L_in w h)
  have hK := hC.1
  have hA : ∀ q : Nat, s.heap.size ≤ q → A q := fun q h => by rw [hAe]; exact h
  have hbA : ¬ A sc := by
    rw [hAe]
    exact Nat.not_le.mpr hbl
  obtain ⟨x0, ex0⟩ : ∃ z : Int32, xs (Int32.toNatClampNeg 0) = z := ⟨_, rfl⟩
  obtain ⟨x1, ex1⟩ : ∃ z : Int32, xs (Int32.toNatClampNeg 1) = z := ⟨_, rfl⟩
  obtain ⟨x2, ex2⟩ : ∃ z : Int32, xs (Int32.toNatClampNeg 2) = z := ⟨_, rfl⟩
  obtain ⟨x3, ex3⟩ : ∃ z : Int32, xs (Int32.toNatClampNeg 3) = z := ⟨_, rfl⟩
  obtain ⟨x4, ex4⟩ : ∃ z : Int32, xs (Int32.toNatClampNeg 4) = z := ⟨_, rfl⟩
  obtain ⟨x5, ex5⟩ : ∃ z : Int32, xs (Int32.toNatClampNeg 5) = z := ⟨_, rfl⟩
  refine lv_aload_n hx hb dL_law_947 rfl (lv_at hl 2 rfl) ?_
  refine lv_aload_n hx hb dL_law_948 rfl (lv_at hl 3 rfl) ?_
  refine lv_iload_n hx hb dL_law_949 rfl (lv_at hl 0 rfl) ?_
  refine lv_iconst (v := 1) hx hb dL_law_950 (by decide) ?_
  refine lv_iadd hx hb dL_law_951 ?_
  refine tk_i 1 (by decide) ?_
  refine va_sld hx hb hX hbl hbA hS (show ¬ ((1 : Int32) < 0 ∨ 6 ≤ Int32.toNatClampNeg 1) by decide) dL_law_952 ?_
  refine tk_i x1 ex1 ?_
  have hPc : va_P (dC, dI) vwCl (fw a cy g) _ := hP.sub [0, 1, 2, 3, 4, 5, 6, 7, 8, 9, 10, 11, 12, 13, 14, 15, 16, 17, 18, 19, 20, 21, 22, 23, 24, 25, 26, 27, 28, 29, 30, 31, 32, 33, 34, 35, 36, 37, 38, 39, 40, 41, 42, 43, 44, 45, 46, 47, 48, 49, 50, 51, 52, 53, 54, 55] rfl
  refine tk_pi (va_runV (As := [.int x1]) (rest := []) ⟨hx, hb, hml, hown, hts⟩ (c_X11_count l dC dI cy a g x1) (cwV 1 hts g_L_law_X11_count_127 rfl rfl rfl (by decide +kernel) ⟨Nat.le_of_ble_eq_true rfl, Nat.le_of_ble_eq_true rfl⟩) (pv_pp hC hPc (ci := 11) (q0 := 0) rfl rfl) rfl rfl hl.1 rfl (lv_room (Nat.le_of_ble_eq_true rfl)) dL_law_953 ⟨Nat.le_of_ble_eq_true rfl, Nat.le_of_ble_eq_true rfl⟩) hP hS (fun r_ H locs hw hP hS => ?_)
  rcases hw with ⟨c4021_, rfl⟩ | ⟨c4022_, rfl⟩ | ⟨c4023_, rfl⟩ | ⟨c4024_, rfl⟩ | ⟨c4025_, rfl⟩ | ⟨c4026_, rfl⟩ | ⟨c4027_, rfl⟩ | ⟨c4028_, rfl⟩ | ⟨c4029_, rfl⟩ | ⟨c4030_, rfl⟩ | ⟨c4031_, rfl⟩ | ⟨c4032_, rfl⟩ | ⟨c4033_, rfl⟩ | ⟨c4034_, rfl⟩ | ⟨c4035_, c4036_, c4037_, c4038_, c4039_, c4040_, c4041_, c4042_, c4043_, c4044_, c4045_, c4046_, c4047_, c4048_, c4049_, rfl⟩ | ⟨c4050_, c4051_, c4052_, c4053_, c4054_, c4055_, c4056_, c4057_, c4058_, c4059_, c4060_, c4061_, c4062_, c4063_, c4064_, c4065_, rfl⟩ | ⟨c4066_, c4067_, c4068_, c4069_, c4070_, c4071_, c4072_, c4073_, c4074_, c4075_, c4076_, c4077_, c4078_, c4079_, c4080_, c4081_, rfl⟩
  · skip
    subst c4021_
    refine lv_aload_n hx hb dL_law_956 rfl (lv_at hl 1 rfl) ?_
    refine lv_aload_n hx hb dL_law_957 rfl (lv_at hl 3 rfl) ?_
    refine lv_iload_n hx hb dL_law_958 rfl (lv_at hl 0 rfl) ?_
    refine lv_iconst (v := 1) hx hb dL_law_959 (by decide) ?_
    refine lv_iadd hx hb dL_law_960 ?_
    refine tk_i 1 (by decide) ?_
    refine va_sld hx hb hX hbl hbA hS (show ¬ ((1 : Int32) < 0 ∨ 6 ≤ Int32.toNatClampNeg 1) by decide) dL_law_961 ?_
    refine tk_i 0 ex1 ?_
    have hPc : va_P (dC, dI) vwCl (mw b cy) _ := hP.sub [56, 57, 58, 59, 60, 61, 62, 63] rfl
    have hDc := hD.sub (ws' := mw b cy) [56, 57, 58, 59, 60, 61, 62, 63] (by decide) rfl
    have hFc := va_free (wc := mw b cy) hD hS hA [56, 57, 58, 59, 60, 61, 62, 63] rfl
    refine va_calli (va_runV (As := [.int 0]) (rest := [.int 1]) ⟨hx, hb, hml, hown, hts⟩ (c_X12_count l dC dI cy b _ 0) (cwV 1 hts g_L_law_X12_count_130 rfl rfl rfl (by decide +kernel) ⟨Nat.le_of_ble_eq_true rfl, Nat.le_of_ble_eq_true rfl⟩) (pv_ps hC hPc hDc (ci := 12) (q0 := 0) rfl rfl) rfl rfl hl.1 rfl (lv_room (Nat.le_of_ble_eq_true rfl)) dL_law_962 ⟨Nat.le_of_ble_eq_true rfl, Nat.le_of_ble_eq_true rfl⟩) hS (fun q _ h => hFc q h) hFc (fun r_ u t_ H1 locs ht hvm hw hB hz1 hk1 hS => ?_)
    obtain ⟨hP, hD⟩ := va_join (wr := []) (w1 := []) hP hD [56, 57, 58, 59, 60, 61, 62, 63] [] rfl rfl (by decide) (by decide) hk1 hFc va_P0 va_D0
    generalize H1 = H at hP hS ⊢
    have hP : va_P (dC, dI) vwCl ([]) H := hP
    have hD : va_D A ([]) := hD
    rcases hw with ⟨-, rfl⟩ | ⟨c4083_, rfl⟩ | ⟨c4084_, rfl⟩ | ⟨c4085_, rfl⟩ | ⟨c4086_, rfl⟩ | ⟨c4087_, rfl⟩ | ⟨c4088_, rfl⟩ | ⟨c4089_, rfl⟩ | ⟨c4090_, rfl⟩ | ⟨c4091_, rfl⟩ | ⟨c4092_, rfl⟩ | ⟨c4093_, rfl⟩ | ⟨c4094_, rfl⟩ | ⟨c4095_, rfl⟩ | ⟨c4096_, -, -, -, -, -, -, -, -, -, -, -, -, -, -, rfl⟩ | ⟨c4111_, -, -, -, -, -, -, -, -, -, -, -, -, -, c4125_, c4126_, rfl⟩ | ⟨c4127_, -, -, -, -, -, -, -, -, -, -, -, -, -, c4141_, -, rfl⟩
    · skip
      refine lv_icmp_eq (tgt := 983) hx hb dL_law_965 (by decide) (fun _ => ?_) (fun c9_ => absurd (by decide) c9_)
      refine lv_iinc (v := 6) (lv' := [(3, .int 6), (2, .ref (b 0)), (1, .ref (a 0)), (0, .ref sc)]) hx hb dL_law_983 hl (k := 0) rfl (by decide) (by decide) rfl (fun ls hl => ?_)
      refine lv_goto (tgt := 18) hx hb dL_law_986 (by decide) ?_
      refine lv_iload_n hx hb dL_law_18 rfl (lv_at hl 0 rfl) ?_
      refine lv_aload_n hx hb dL_law_19 rfl (lv_at hl 3 rfl) ?_
      refine va_slen hx hb hX hbl hbA hS dL_law_20 ?_
      refine tk_i 6 (by decide) ?_
      refine lv_bipush (v := 6) hx hb dL_law_21 (by decide) ?_
      refine lv_isub hx hb dL_law_23 ?_
      refine tk_i 0 (by decide) ?_
      refine lv_icmp_gt (tgt := 989) hx hb dL_law_24 (by decide) (fun _ => ?_) (fun c9_ => absurd (by decide) c9_)
      refine lv_iconst (v := 1) hx hb dL_law_989 (by decide) ?_
      refine va_forget (fun q hq => by have h := hS.2.2 q hq; rw [hAe] at h; exact h) ?_
      refine W.widen (k := 600000) (n := 7302249) (Nat.le_of_ble_eq_true rfl) (Nat.le_of_ble_eq_true rfl) ?_
      exact lw_ret hx hb hr hlocks dL_law_990
    · skip
      exact absurd c4083_ (by decide)
    · skip
      exact absurd c4084_ (by decide)
    · skip
      exact absurd c4085_ (by decide)
    · skip
      exact absurd c4086_ (by decide)
    · skip
      exact absurd c4087_ (by decide)
    · skip
      exact absurd c4088_ (by decide)
    · skip
      exact absurd c4089_ (by decide)
    · skip
      exact absurd c4090_ (by decide)
    · skip
      exact absurd c4091_ (by decide)
    · skip
      exact absurd c4092_ (by decide)
    · skip
      exact absurd c4093_ (by decide)
    · skip
      exact absurd c4094_ (by decide)
    · skip
      exact absurd c4095_ (by decide)
    · skip
      exact absurd c4096_ (by decide)
    · skip
      exact absurd c4126_ (by decide)
    · skip
      exact absurd c4141_ (by decide)
  · skip
    subst c4022_
    refine lv_aload_n hx hb dL_law_956 rfl (lv_at hl 1 rfl) ?_
    refine lv_aload_n hx hb dL_law_957 rfl (lv_at hl 3 rfl) ?_
    refine lv_iload_n hx hb dL_law_958 rfl (lv_at hl 0 rfl) ?_
    refine lv_iconst (v := 1) hx hb dL_law_959 (by decide) ?_
    refine lv_iadd hx hb dL_law_960 ?_
    refine tk_i 1 (by decide) ?_
    refine va_sld hx hb hX hbl hbA hS (show ¬ ((1 : Int32) < 0 ∨ 6 ≤ Int32.toNatClampNeg 1) by decide) dL_law_961 ?_
    refine tk_i 1 ex1 ?_
    have hPc : va_P (dC, dI) vwCl (mw b cy) _ := hP.sub [56, 57, 58, 59, 60, 61, 62, 63] rfl
    have hDc := hD.sub (ws' := mw b cy) [56, 57, 58, 59, 60, 61, 62, 63] (by decide) rfl
    have hFc := va_free (wc := mw b cy) hD hS hA [56, 57, 58, 59, 60, 61, 62, 63] rfl
    refine va_calli (va_runV (As := [.int 1]) (rest := [.int 1]) ⟨hx, hb, hml, hown, hts⟩ (c_X12_count l dC dI cy b _ 1) (cwV 1 hts g_L_law_X12_count_130 rfl rfl rfl (by decide +kernel) ⟨Nat.le_of_ble_eq_true rfl, Nat.le_of_ble_eq_true rfl⟩) (pv_ps hC hPc hDc (ci := 12) (q0 := 0) rfl rfl) rfl rfl hl.1 rfl (lv_room (Nat.le_of_ble_eq_true rfl)) dL_law_962 ⟨Nat.le_of_ble_eq_true rfl, Nat.le_of_ble_eq_true rfl⟩) hS (fun q _ h => hFc q h) hFc (fun r_ u t_ H1 locs ht hvm hw hB hz1 hk1 hS => ?_)
    obtain ⟨hP, hD⟩ := va_join (wr := []) (w1 := []) hP hD [56, 57, 58, 59, 60, 61, 62, 63] [] rfl rfl (by decide) (by decide) hk1 hFc va_P0 va_D0
    generalize H1 = H at hP hS ⊢
    have hP : va_P (dC, dI) vwCl ([]) H := hP
    have hD : va_D A ([]) := hD
    rcases hw with ⟨c4143_, rfl⟩ | ⟨-, rfl⟩ | ⟨c4145_, rfl⟩ | ⟨c4146_, rfl⟩ | ⟨c4147_, rfl⟩ | ⟨c4148_, rfl⟩ | ⟨c4149_, rfl⟩ | ⟨c4150_, rfl⟩ | ⟨c4151_, rfl⟩ | ⟨c4152_, rfl⟩ | ⟨c4153_, rfl⟩ | ⟨c4154_, rfl⟩ | ⟨c4155_, rfl⟩ | ⟨c4156_, rfl⟩ | ⟨-, c4158_, -, -, -, -, -, -, -, -, -, -, -, -, -, rfl⟩ | ⟨-, c4173_, -, -, -, -, -, -, -, -, -, -, -, -, c4186_, c4187_, rfl⟩ | ⟨-, c4189_, -, -, -, -, -, -, -, -, -, -, -, -, c4202_, -, rfl⟩
    · skip
      exact absurd c4143_ (by decide)
    · skip
      refine lv_icmp_eq (tgt := 983) hx hb dL_law_965 (by decide) (fun _ => ?_) (fun c9_ => absurd (by decide) c9_)
      refine lv_iinc (v := 6) (lv' := [(3, .int 6), (2, .ref (b 0)), (1, .ref (a 0)), (0, .ref sc)]) hx hb dL_law_983 hl (k := 0) rfl (by decide) (by decide) rfl (fun ls hl => ?_)
      refine lv_goto (tgt := 18) hx hb dL_law_986 (by decide) ?_
      refine lv_iload_n hx hb dL_law_18 rfl (lv_at hl 0 rfl) ?_
      refine lv_aload_n hx hb dL_law_19 rfl (lv_at hl 3 rfl) ?_
      refine va_slen hx hb hX hbl hbA hS dL_law_20 ?_
      refine tk_i 6 (by decide) ?_
      refine lv_bipush (v := 6) hx hb dL_law_21 (by decide) ?_
      refine lv_isub hx hb dL_law_23 ?_
      refine tk_i 0 (by decide) ?_
      refine lv_icmp_gt (tgt := 989) hx hb dL_law_24 (by decide) (fun _ => ?_) (fun c9_ => absurd (by decide) c9_)
      refine lv_iconst (v := 1) hx hb dL_law_989 (by decide) ?_
      refine va_forget (fun q hq => by have h := hS.2.2 q hq; rw [hAe] at h; exact h) ?_
      refine W.widen (k := 600000) (n := 7302249) (Nat.le_of_ble_eq_true rfl) (Nat.le_of_ble_eq_true rfl) ?_
      exact lw_ret hx hb hr hlocks dL_law_990
    · skip
      exact absurd c4145_ (by decide)
    · skip
      exact absurd c4146_ (by decide)
    · skip
      exact absurd c4147_ (by decide)
    · skip
      exact absurd c4148_ (by decide)
    · skip
      exact absurd c4149_ (by decide)
    · skip
      exact absurd c4150_ (by decide)
    · skip
      exact absurd c4151_ (by decide)
    · skip
      exact absurd c4152_ (by decide)
    · skip
      exact absurd c4153_ (by decide)
    · skip
      exact absurd c4154_ (by decide)
    · skip
      exact absurd c4155_ (by decide)
    · skip
      exact absurd c4156_ (by decide)
    · skip
      exact absurd c4158_ (by decide)
    · skip
      exact absurd c4187_ (by decide)
    · skip
      exact absurd c4202_ (by decide)
  · skip
    subst c4023_
    refine lv_aload_n hx hb dL_law_956 rfl (lv_at hl 1 rfl) ?_
    refine lv_aload_n hx hb dL_law_957 rfl (lv_at hl 3 rfl) ?_
    refine lv_iload_n hx hb dL_law_958 rfl (lv_at hl 0 rfl) ?_
    refine lv_iconst (v := 1) hx hb dL_law_959 (by decide) ?_
    refine lv_iadd hx hb dL_law_960 ?_
    refine tk_i 1 (by decide) ?_
    refine va_sld hx hb hX hbl hbA hS (show ¬ ((1 : Int32) < 0 ∨ 6 ≤ Int32.toNatClampNeg 1) by decide) dL_law_961 ?_
    refine tk_i 2 ex1 ?_
    have hPc : va_P (dC, dI) vwCl (mw b cy) _ := hP.sub [56, 57, 58, 59, 60, 61, 62, 63] rfl
    have hDc := hD.sub (ws' := mw b cy) [56, 57, 58, 59, 60, 61, 62, 63] (by decide) rfl
    have hFc := va_free (wc := mw b cy) hD hS hA [56, 57, 58, 59, 60, 61, 62, 63] rfl
    refine va_calli (va_runV (As := [.int 2]) (rest := [.int 0]) ⟨hx, hb, hml, hown, hts⟩ (c_X12_count l dC dI cy b _ 2) (cwV 1 hts g_L_law_X12_count_130 rfl rfl rfl (by decide +kernel) ⟨Nat.le_of_ble_eq_true rfl, Nat.le_of_ble_eq_true rfl⟩) (pv_ps hC hPc hDc (ci := 12) (q0 := 0) rfl rfl) rfl rfl hl.1 rfl (lv_room (Nat.le_of_ble_eq_true rfl)) dL_law_962 ⟨Nat.le_of_ble_eq_true rfl, Nat.le_of_ble_eq_true rfl⟩) hS (fun q _ h => hFc q h) hFc (fun r_ u t_ H1 locs ht hvm hw hB hz1 hk1 hS => ?_)
    obtain ⟨hP, hD⟩ := va_join (wr := []) (w1 := []) hP hD [56, 57, 58, 59, 60, 61, 62, 63] [] rfl rfl (by decide) (by decide) hk1 hFc va_P0 va_D0
    generalize H1 = H at hP hS ⊢
    have hP : va_P (dC, dI) vwCl ([]) H := hP
    have hD : va_D A ([]) := hD
    rcases hw with ⟨c4204_, rfl⟩ | ⟨c4205_, rfl⟩ | ⟨-, rfl⟩ | ⟨c4207_, rfl⟩ | ⟨c4208_, rfl⟩ | ⟨c4209_, rfl⟩ | ⟨c4210_, rfl⟩ | ⟨c4211_, rfl⟩ | ⟨c4212_, rfl⟩ | ⟨c4213_, rfl⟩ | ⟨c4214_, rfl⟩ | ⟨c4215_, rfl⟩ | ⟨c4216_, rfl⟩ | ⟨c4217_, rfl⟩ | ⟨-, -, c4220_, -, -, -, -, -, -, -, -, -, -, -, -, rfl⟩ | ⟨-, -, c4235_, -, -, -, -, -, -, -, -, -, -, -, c4247_, c4248_, rfl⟩ | ⟨-, -, c4251_, -, -, -, -, -, -, -, -, -, -, -, c4263_, -, rfl⟩
    · skip
      exact absurd c4204_ (by decide)
    · skip
      exact absurd c4205_ (by decide)
    · skip
      refine lv_icmp_eq (tgt := 983) hx hb dL_law_965 (by decide) (fun _ => ?_) (fun c9_ => absurd (by decide) c9_)
      refine lv_iinc (v := 6) (lv' := [(3, .int 6), (2, .ref (b 0)), (1, .ref (a 0)), (0, .ref sc)]) hx hb dL_law_983 hl (k := 0) rfl (by decide) (by decide) rfl (fun ls hl => ?_)
      refine lv_goto (tgt := 18) hx hb dL_law_986 (by decide) ?_
      refine lv_iload_n hx hb dL_law_18 rfl (lv_at hl 0 rfl) ?_
      refine lv_aload_n hx hb dL_law_19 rfl (lv_at hl 3 rfl) ?_
      refine va_slen hx hb hX hbl hbA hS dL_law_20 ?_
      refine tk_i 6 (by decide) ?_
      refine lv_bipush (v := 6) hx hb dL_law_21 (by decide) ?_
      refine lv_isub hx hb dL_law_23 ?_
      refine tk_i 0 (by decide) ?_
      refine lv_icmp_gt (tgt := 989) hx hb dL_law_24 (by decide) (fun _ => ?_) (fun c9_ => absurd (by decide) c9_)
      refine lv_iconst (v := 1) hx hb dL_law_989 (by decide) ?_
      refine va_forget (fun q hq => by have h := hS.2.2 q hq; rw [hAe] at h; exact h) ?_
      refine W.widen (k := 600000) (n := 7302249) (Nat.le_of_ble_eq_true rfl) (Nat.le_of_ble_eq_true rfl) ?_
      exact lw_ret hx hb hr hlocks dL_law_990
    · skip
      exact absurd c4207_ (by decide)
    · skip
      exact absurd c4208_ (by decide)
    · skip
      exact absurd c4209_ (by decide)
    · skip
      exact absurd c4210_ (by decide)
    · skip
      exact absurd c4211_ (by decide)
    · skip
      exact absurd c4212_ (by decide)
    · skip
      exact absurd c4213_ (by decide)
    · skip
      exact absurd c4214_ (by decide)
    · skip
      exact absurd c4215_ (by decide)
    · skip
      exact absurd c4216_ (by decide)
    · skip
      exact absurd c4217_ (by decide)
    · skip
      exact absurd c4220_ (by decide)
    · skip
      exact absurd c4248_ (by decide)
    · skip
      exact absurd c4263_ (by decide)
  · skip
    subst c4024_
    refine lv_aload_n hx hb dL_law_956 rfl (lv_at hl 1 rfl) ?_
    refine lv_aload_n hx hb dL_law_957 rfl (lv_at hl 3 rfl) ?_
    refine lv_iload_n hx hb dL_law_958 rfl (lv_at hl 0 rfl) ?_
    refine lv_iconst (v := 1) hx hb dL_law_959 (by decide) ?_
    refine lv_iadd hx hb dL_law_960 ?_
    refine tk_i 1 (by decide) ?_
    refine va_sld hx hb hX hbl hbA hS (show ¬ ((1 : Int32) < 0 ∨ 6 ≤ Int32.toNatClampNeg 1) by decide) dL_law_961 ?_
    refine tk_i 3 ex1 ?_
    have hPc : va_P (dC, dI) vwCl (mw b cy) _ := hP.sub [56, 57, 58, 59, 60, 61, 62, 63] rfl
    have hDc := hD.sub (ws' := mw b cy) [56, 57, 58, 59, 60, 61, 62, 63] (by decide) rfl
    have hFc := va_free (wc := mw b cy) hD hS hA [56, 57, 58, 59, 60, 61, 62, 63] rfl
    refine va_calli (va_runV (As := [.int 3]) (rest := [.int 0]) ⟨hx, hb, hml, hown, hts⟩ (c_X12_count l dC dI cy b _ 3) (cwV 1 hts g_L_law_X12_count_130 rfl rfl rfl (by decide +kernel) ⟨Nat.le_of_ble_eq_true rfl, Nat.le_of_ble_eq_true rfl⟩) (pv_ps hC hPc hDc (ci := 12) (q0 := 0) rfl rfl) rfl rfl hl.1 rfl (lv_room (Nat.le_of_ble_eq_true rfl)) dL_law_962 ⟨Nat.le_of_ble_eq_true rfl, Nat.le_of_ble_eq_true rfl⟩) hS (fun q _ h => hFc q h) hFc (fun r_ u t_ H1 locs ht hvm hw hB hz1 hk1 hS => ?_)
    obtain ⟨hP, hD⟩ := va_join (wr := []) (w1 := []) hP hD [56, 57, 58, 59, 60, 61, 62, 63] [] rfl rfl (by decide) (by decide) hk1 hFc va_P0 va_D0
    generalize H1 = H at hP hS ⊢
    have hP : va_P (dC, dI) vwCl ([]) H := hP
    have hD : va_D A ([]) := hD
    rcases hw with ⟨c4265_, rfl⟩ | ⟨c4266_, rfl⟩ | ⟨c4267_, rfl⟩ | ⟨-, rfl⟩ | ⟨c4269_, rfl⟩ | ⟨c4270_, rfl⟩ | ⟨c4271_, rfl⟩ | ⟨c4272_, rfl⟩ | ⟨c4273_, rfl⟩ | ⟨c4274_, rfl⟩ | ⟨c4275_, rfl⟩ | ⟨c4276_, rfl⟩ | ⟨c4277_, rfl⟩ | ⟨c4278_, rfl⟩ | ⟨-, -, -, c4282_, -, -, -, -, -, -, -, -, -, -, -, rfl⟩ | ⟨-, -, -, c4297_, -, -, -, -, -, -, -, -, -, -, c4308_, c4309_, rfl⟩ | ⟨-, -, -, c4313_, -, -, -, -, -, -, -, -, -, -, c4324_, -, rfl⟩
    · skip
      exact absurd c4265_ (by decide)
    · skip
      exact absurd c4266_ (by decide)
    · skip
      exact absurd c4267_ (by decide)
    · skip
      refine lv_icmp_eq (tgt := 983) hx hb dL_law_965 (by decide) (fun _ => ?_) (fun c9_ => absurd (by decide) c9_)
      refine lv_iinc (v := 6) (lv' := [(3, .int 6), (2, .ref (b 0)), (1, .ref (a 0)), (0, .ref sc)]) hx hb dL_law_983 hl (k := 0) rfl (by decide) (by decide) rfl (fun ls hl => ?_)
      refine lv_goto (tgt := 18) hx hb dL_law_986 (by decide) ?_
      refine lv_iload_n hx hb dL_law_18 rfl (lv_at hl 0 rfl) ?_
      refine lv_aload_n hx hb dL_law_19 rfl (lv_at hl 3 rfl) ?_
      refine va_slen hx hb hX hbl hbA hS dL_law_20 ?_
      refine tk_i 6 (by decide) ?_
      refine lv_bipush (v := 6) hx hb dL_law_21 (by decide) ?_
      refine lv_isub hx hb dL_law_23 ?_
      refine tk_i 0 (by decide) ?_
      refine lv_icmp_gt (tgt := 989) hx hb dL_law_24 (by decide) (fun _ => ?_) (fun c9_ => absurd (by decide) c9_)
      refine lv_iconst (v := 1) hx hb dL_law_989 (by decide) ?_
      refine va_forget (fun q hq => by have h := hS.2.2 q hq; rw [hAe] at h; exact h) ?_
      refine W.widen (k := 600000) (n := 7302249) (Nat.le_of_ble_eq_true rfl) (Nat.le_of_ble_eq_true rfl) ?_
      exact lw_ret hx hb hr hlocks dL_law_990
    · skip
      exact absurd c4269_ (by decide)
    · skip
      exact absurd c4270_ (by decide)
    · skip
      exact absurd c4271_ (by decide)
    · skip
      exact absurd c4272_ (by decide)
    · skip
      exact absurd c4273_ (by decide)
    · skip
      exact absurd c4274_ (by decide)
    · skip
      exact absurd c4275_ (by decide)
    · skip
      exact absurd c4276_ (by decide)
    · skip
      exact absurd c4277_ (by decide)
    · skip
      exact absurd c4278_ (by decide)
    · skip
      exact absurd c4282_ (by decide)
    · skip
      exact absurd c4309_ (by decide)
    · skip
      exact absurd c4324_ (by decide)
  · skip
    subst c4025_
    refine lv_aload_n hx hb dL_law_956 rfl (lv_at hl 1 rfl) ?_
    refine lv_aload_n hx hb dL_law_957 rfl (lv_at hl 3 rfl) ?_
    refine lv_iload_n hx hb dL_law_958 rfl (lv_at hl 0 rfl) ?_
    refine lv_iconst (v := 1) hx hb dL_law_959 (by decide) ?_
    refine lv_iadd hx hb dL_law_960 ?_
    refine tk_i 1 (by decide) ?_
    refine va_sld hx hb hX hbl hbA hS (show ¬ ((1 : Int32) < 0 ∨ 6 ≤ Int32.toNatClampNeg 1) by decide) dL_law_961 ?_
    refine tk_i 4 ex1 ?_
    have hPc : va_P (dC, dI) vwCl (mw b cy) _ := hP.sub [56, 57, 58, 59, 60, 61, 62, 63] rfl
    have hDc := hD.sub (ws' := mw b cy) [56, 57, 58, 59, 60, 61, 62, 63] (by decide) rfl
    have hFc := va_free (wc := mw b cy) hD hS hA [56, 57, 58, 59, 60, 61, 62, 63] rfl
    refine va_calli (va_runV (As := [.int 4]) (rest := [.int 0]) ⟨hx, hb, hml, hown, hts⟩ (c_X12_count l dC dI cy b _ 4) (cwV 1 hts g_L_law_X12_count_130 rfl rfl rfl (by decide +kernel) ⟨Nat.le_of_ble_eq_true rfl, Nat.le_of_ble_eq_true rfl⟩) (pv_ps hC hPc hDc (ci := 12) (q0 := 0) rfl rfl) rfl rfl hl.1 rfl (lv_room (Nat.le_of_ble_eq_true rfl)) dL_law_962 ⟨Nat.le_of_ble_eq_true rfl, Nat.le_of_ble_eq_true rfl⟩) hS (fun q _ h => hFc q h) hFc (fun r_ u t_ H1 locs ht hvm hw hB hz1 hk1 hS => ?_)
    obtain ⟨hP, hD⟩ := va_join (wr := []) (w1 := []) hP hD [56, 57, 58, 59, 60, 61, 62, 63] [] rfl rfl (by decide) (by decide) hk1 hFc va_P0 va_D0
    generalize H1 = H at hP hS ⊢
    have hP : va_P (dC, dI) vwCl ([]) H := hP
    have hD : va_D A ([]) := hD
    rcases hw with ⟨c4326_, rfl⟩ | ⟨c4327_, rfl⟩ | ⟨c4328_, rfl⟩ | ⟨c4329_, rfl⟩ | ⟨-, rfl⟩ | ⟨c4331_, rfl⟩ | ⟨c4332_, rfl⟩ | ⟨c4333_, rfl⟩ | ⟨c4334_, rfl⟩ | ⟨c4335_, rfl⟩ | ⟨c4336_, rfl⟩ | ⟨c4337_, rfl⟩ | ⟨c4338_, rfl⟩ | ⟨c4339_, rfl⟩ | ⟨-, -, -, -, c4344_, -, -, -, -, -, -, -, -, -, -, rfl⟩ | ⟨-, -, -, -, c4359_, -, -, -, -, -, -, -, -, -, c4369_, c4370_, rfl⟩ | ⟨-, -, -, -, c4375_, -, -, -, -, -, -, -, -, -, c4385_, -, rfl⟩
    · skip
      exact absurd c4326_ (by decide)
    · skip
      exact absurd c4327_ (by decide)
    · skip
      exact absurd c4328_ (by decide)
    · skip
      exact absurd c4329_ (by decide)
    · skip
      refine lv_icmp_eq (tgt := 983) hx hb dL_law_965 (by decide) (fun _ => ?_) (fun c9_ => absurd (by decide) c9_)
      refine lv_iinc (v := 6) (lv' := [(3, .int 6), (2, .ref (b 0)), (1, .ref (a 0)), (0, .ref sc)]) hx hb dL_law_983 hl (k := 0) rfl (by decide) (by decide) rfl (fun ls hl => ?_)
      refine lv_goto (tgt := 18) hx hb dL_law_986 (by decide) ?_
      refine lv_iload_n hx hb dL_law_18 rfl (lv_at hl 0 rfl) ?_
      refine lv_aload_n hx hb dL_law_19 rfl (lv_at hl 3 rfl) ?_
      refine va_slen hx hb hX hbl hbA hS dL_law_20 ?_
      refine tk_i 6 (by decide) ?_
      refine lv_bipush (v := 6) hx hb dL_law_21 (by decide) ?_
      refine lv_isub hx hb dL_law_23 ?_
      refine tk_i 0 (by decide) ?_
      refine lv_icmp_gt (tgt := 989) hx hb dL_law_24 (by decide) (fun _ => ?_) (fun c9_ => absurd (by decide) c9_)
      refine lv_iconst (v := 1) hx hb dL_law_989 (by decide) ?_
      refine va_forget (fun q hq => by have h := hS.2.2 q hq; rw [hAe] at h; exact h) ?_
      refine W.widen (k := 600000) (n := 7302249) (Nat.le_of_ble_eq_true rfl) (Nat.le_of_ble_eq_true rfl) ?_
      exact lw_ret hx hb hr hlocks dL_law_990
    · skip
      exact absurd c4331_ (by decide)
    · skip
      exact absurd c4332_ (by decide)
    · skip
      exact absurd c4333_ (by decide)
    · skip
      exact absurd c4334_ (by decide)
    · skip
      exact absurd c4335_ (by decide)
    · skip
      exact absurd c4336_ (by decide)
    · skip
      exact absurd c4337_ (by decide)
    · skip
      exact absurd c4338_ (by decide)
    · skip
      exact absurd c4339_ (by decide)
    · skip
      exact absurd c4344_ (by decide)
    · skip
      exact absurd c4370_ (by decide)
    · skip
      exact absurd c4385_ (by decide)
  · skip
    subst c4026_
    refine lv_aload_n hx hb dL_law_956 rfl (lv_at hl 1 rfl) ?_
    refine lv_aload_n hx hb dL_law_957 rfl (lv_at hl 3 rfl) ?_
    refine lv_iload_n hx hb dL_law_958 rfl (lv_at hl 0 rfl) ?_
    refine lv_iconst (v := 1) hx hb dL_law_959 (by decide) ?_
    refine lv_iadd hx hb dL_law_960 ?_
    refine tk_i 1 (by decide) ?_
    refine va_sld hx hb hX hbl hbA hS (show ¬ ((1 : Int32) < 0 ∨ 6 ≤ Int32.toNatClampNeg 1) by decide) dL_law_961 ?_
    refine tk_i 5 ex1 ?_
    have hPc : va_P (dC, dI) vwCl (mw b cy) _ := hP.sub [56, 57, 58, 59, 60, 61, 62, 63] rfl
    have hDc := hD.sub (ws' := mw b cy) [56, 57, 58, 59, 60, 61, 62, 63] (by decide) rfl
    have hFc := va_free (wc := mw b cy) hD hS hA [56, 57, 58, 59, 60, 61, 62, 63] rfl
    refine va_calli (va_runV (As := [.int 5]) (rest := [.int 0]) ⟨hx, hb, hml, hown, hts⟩ (c_X12_count l dC dI cy b _ 5) (cwV 1 hts g_L_law_X12_count_130 rfl rfl rfl (by decide +kernel) ⟨Nat.le_of_ble_eq_true rfl, Nat.le_of_ble_eq_true rfl⟩) (pv_ps hC hPc hDc (ci := 12) (q0 := 0) rfl rfl) rfl rfl hl.1 rfl (lv_room (Nat.le_of_ble_eq_true rfl)) dL_law_962 ⟨Nat.le_of_ble_eq_true rfl, Nat.le_of_ble_eq_true rfl⟩) hS (fun q _ h => hFc q h) hFc (fun r_ u t_ H1 locs ht hvm hw hB hz1 hk1 hS => ?_)
    obtain ⟨hP, hD⟩ := va_join (wr := []) (w1 := []) hP hD [56, 57, 58, 59, 60, 61, 62, 63] [] rfl rfl (by decide) (by decide) hk1 hFc va_P0 va_D0
    generalize H1 = H at hP hS ⊢
    have hP : va_P (dC, dI) vwCl ([]) H := hP
    have hD : va_D A ([]) := hD
    rcases hw with ⟨c4387_, rfl⟩ | ⟨c4388_, rfl⟩ | ⟨c4389_, rfl⟩ | ⟨c4390_, rfl⟩ | ⟨c4391_, rfl⟩ | ⟨-, rfl⟩ | ⟨c4393_, rfl⟩ | ⟨c4394_, rfl⟩ | ⟨c4395_, rfl⟩ | ⟨c4396_, rfl⟩ | ⟨c4397_, rfl⟩ | ⟨c4398_, rfl⟩ | ⟨c4399_, rfl⟩ | ⟨c4400_, rfl⟩ | ⟨-, -, -, -, -, c4406_, -, -, -, -, -, -, -, -, -, rfl⟩ | ⟨-, -, -, -, -, c4421_, -, -, -, -, -, -, -, -, c4430_, c4431_, rfl⟩ | ⟨-, -, -, -, -, c4437_, -, -, -, -, -, -, -, -, c4446_, -, rfl⟩
    · skip
      exact absurd c4387_ (by decide)
    · skip
      exact absurd c4388_ (by decide)
    · skip
      exact absurd c4389_ (by decide)
    · skip
      exact absurd c4390_ (by decide)
    · skip
      exact absurd c4391_ (by decide)
    · skip
      refine lv_icmp_eq (tgt := 983) hx hb dL_law_965 (by decide) (fun _ => ?_) (fun c9_ => absurd (by decide) c9_)
      refine lv_iinc (v := 6) (lv' := [(3, .int 6), (2, .ref (b 0)), (1, .ref (a 0)), (0, .ref sc)]) hx hb dL_law_983 hl (k := 0) rfl (by decide) (by decide) rfl (fun ls hl => ?_)
      refine lv_goto (tgt := 18) hx hb dL_law_986 (by decide) ?_
      refine lv_iload_n hx hb dL_law_18 rfl (lv_at hl 0 rfl) ?_
      refine lv_aload_n hx hb dL_law_19 rfl (lv_at hl 3 rfl) ?_
      refine va_slen hx hb hX hbl hbA hS dL_law_20 ?_
      refine tk_i 6 (by decide) ?_
      refine lv_bipush (v := 6) hx hb dL_law_21 (by decide) ?_
      refine lv_isub hx hb dL_law_23 ?_
      refine tk_i 0 (by decide) ?_
      refine lv_icmp_gt (tgt := 989) hx hb dL_law_24 (by decide) (fun _ => ?_) (fun c9_ => absurd (by decide) c9_)
      refine lv_iconst (v := 1) hx hb dL_law_989 (by decide) ?_
      refine va_forget (fun q hq => by have h := hS.2.2 q hq; rw [hAe] at h; exact h) ?_
      refine W.widen (k := 600000) (n := 7302249) (Nat.le_of_ble_eq_true rfl) (Nat.le_of_ble_eq_true rfl) ?_
      exact lw_ret hx hb hr hlocks dL_law_990
    · skip
      exact absurd c4393_ (by decide)
    · skip
      exact absurd c4394_ (by decide)
    · skip
      exact absurd c4395_ (by decide)
    · skip
      exact absurd c4396_ (by decide)
    · skip
      exact absurd c4397_ (by decide)
    · skip
      exact absurd c4398_ (by decide)
    · skip
      exact absurd c4399_ (by decide)
    · skip
      exact absurd c4400_ (by decide)
    · skip
      exact absurd c4406_ (by decide)
    · skip
      exact absurd c4431_ (by decide)
    · skip
      exact absurd c4446_ (by decide)
  · skip
    subst c4027_
    refine lv_aload_n hx hb dL_law_956 rfl (lv_at hl 1 rfl) ?_
    refine lv_aload_n hx hb dL_law_957 rfl (lv_at hl 3 rfl) ?_
    refine lv_iload_n hx hb dL_law_958 rfl (lv_at hl 0 rfl) ?_
    refine lv_iconst (v := 1) hx hb dL_law_959 (by decide) ?_
    refine lv_iadd hx hb dL_law_960 ?_
    refine tk_i 1 (by decide) ?_
    refine va_sld hx hb hX hbl hbA hS (show ¬ ((1 : Int32) < 0 ∨ 6 ≤ Int32.toNatClampNeg 1) by decide) dL_law_961 ?_
    refine tk_i 6 ex1 ?_
    have hPc : va_P (dC, dI) vwCl (mw b cy) _ := hP.sub [56, 57, 58, 59, 60, 61, 62, 63] rfl
    have hDc := hD.sub (ws' := mw b cy) [56, 57, 58, 59, 60, 61, 62, 63] (by decide) rfl
    have hFc := va_free (wc := mw b cy) hD hS hA [56, 57, 58, 59, 60, 61, 62, 63] rfl
    refine va_calli (va_runV (As := [.int 6]) (rest := [.int 0]) ⟨hx, hb, hml, hown, hts⟩ (c_X12_count l dC dI cy b _ 6) (cwV 1 hts g_L_law_X12_count_130 rfl rfl rfl (by decide +kernel) ⟨Nat.le_of_ble_eq_true rfl, Nat.le_of_ble_eq_true rfl⟩) (pv_ps hC hPc hDc (ci := 12) (q0 := 0) rfl rfl) rfl rfl hl.1 rfl (lv_room (Nat.le_of_ble_eq_true rfl)) dL_law_962 ⟨Nat.le_of_ble_eq_true rfl, Nat.le_of_ble_eq_true rfl⟩) hS (fun q _ h => hFc q h) hFc (fun r_ u t_ H1 locs ht hvm hw hB hz1 hk1 hS => ?_)
    obtain ⟨hP, hD⟩ := va_join (wr := []) (w1 := []) hP hD [56, 57, 58, 59, 60, 61, 62, 63] [] rfl rfl (by decide) (by decide) hk1 hFc va_P0 va_D0
    generalize H1 = H at hP hS ⊢
    have hP : va_P (dC, dI) vwCl ([]) H := hP
    have hD : va_D A ([]) := hD
    rcases hw with ⟨c4448_, rfl⟩ | ⟨c4449_, rfl⟩ | ⟨c4450_, rfl⟩ | ⟨c4451_, rfl⟩ | ⟨c4452_, rfl⟩ | ⟨c4453_, rfl⟩ | ⟨-, rfl⟩ | ⟨c4455_, rfl⟩ | ⟨c4456_, rfl⟩ | ⟨c4457_, rfl⟩ | ⟨c4458_, rfl⟩ | ⟨c4459_, rfl⟩ | ⟨c4460_, rfl⟩ | ⟨c4461_, rfl⟩ | ⟨-, -, -, -, -, -, c4468_, -, -, -, -, -, -, -, -, rfl⟩ | ⟨-, -, -, -, -, -, c4483_, -, -, -, -, -, -, -, c4491_, c4492_, rfl⟩ | ⟨-, -, -, -, -, -, c4499_, -, -, -, -, -, -, -, c4507_, -, rfl⟩
    · skip
      exact absurd c4448_ (by decide)
    · skip
      exact absurd c4449_ (by decide)
    · skip
      exact absurd c4450_ (by decide)
    · skip
      exact absurd c4451_ (by decide)
    · skip
      exact absurd c4452_ (by decide)
    · skip
      exact absurd c4453_ (by decide)
    · skip
      refine lv_icmp_eq (tgt := 983) hx hb dL_law_965 (by decide) (fun _ => ?_) (fun c9_ => absurd (by decide) c9_)
      refine lv_iinc (v := 6) (lv' := [(3, .int 6), (2, .ref (b 0)), (1, .ref (a 0)), (0, .ref sc)]) hx hb dL_law_983 hl (k := 0) rfl (by decide) (by decide) rfl (fun ls hl => ?_)
      refine lv_goto (tgt := 18) hx hb dL_law_986 (by decide) ?_
      refine lv_iload_n hx hb dL_law_18 rfl (lv_at hl 0 rfl) ?_
      refine lv_aload_n hx hb dL_law_19 rfl (lv_at hl 3 rfl) ?_
      refine va_slen hx hb hX hbl hbA hS dL_law_20 ?_
      refine tk_i 6 (by decide) ?_
      refine lv_bipush (v := 6) hx hb dL_law_21 (by decide) ?_
      refine lv_isub hx hb dL_law_23 ?_
      refine tk_i 0 (by decide) ?_
      refine lv_icmp_gt (tgt := 989) hx hb dL_law_24 (by decide) (fun _ => ?_) (fun c9_ => absurd (by decide) c9_)
      refine lv_iconst (v := 1) hx hb dL_law_989 (by decide) ?_
      refine va_forget (fun q hq => by have h := hS.2.2 q hq; rw [hAe] at h; exact h) ?_
      refine W.widen (k := 600000) (n := 7302249) (Nat.le_of_ble_eq_true rfl) (Nat.le_of_ble_eq_true rfl) ?_
      exact lw_ret hx hb hr hlocks dL_law_990
    · skip
      exact absurd c4455_ (by decide)
    · skip
      exact absurd c4456_ (by decide)
    · skip
      exact absurd c4457_ (by decide)
    · skip
      exact absurd c4458_ (by decide)
    · skip
      exact absurd c4459_ (by decide)
    · skip
      exact absurd c4460_ (by decide)
    · skip
      exact absurd c4461_ (by decide)
    · skip
      exact absurd c4468_ (by decide)
    · skip
      exact absurd c4492_ (by decide)
    · skip
      exact absurd c4507_ (by decide)
  · skip
    subst c4028_
    refine lv_aload_n hx hb dL_law_956 rfl (lv_at hl 1 rfl) ?_
    refine lv_aload_n hx hb dL_law_957 rfl (lv_at hl 3 rfl) ?_
    refine lv_iload_n hx hb dL_law_958 rfl (lv_at hl 0 rfl) ?_
    refine lv_iconst (v := 1) hx hb dL_law_959 (by decide) ?_
    refine lv_iadd hx hb dL_law_960 ?_
    refine tk_i 1 (by decide) ?_
    refine va_sld hx hb hX hbl hbA hS (show ¬ ((1 : Int32) < 0 ∨ 6 ≤ Int32.toNatClampNeg 1) by decide) dL_law_961 ?_
    refine tk_i 7 ex1 ?_
    have hPc : va_P (dC, dI) vwCl (mw b cy) _ := hP.sub [56, 57, 58, 59, 60, 61, 62, 63] rfl
    have hDc := hD.sub (ws' := mw b cy) [56, 57, 58, 59, 60, 61, 62, 63] (by decide) rfl
    have hFc := va_free (wc := mw b cy) hD hS hA [56, 57, 58, 59, 60, 61, 62, 63] rfl
    refine va_calli (va_runV (As := [.int 7]) (rest := [.int 0]) ⟨hx, hb, hml, hown, hts⟩ (c_X12_count l dC dI cy b _ 7) (cwV 1 hts g_L_law_X12_count_130 rfl rfl rfl (by decide +kernel) ⟨Nat.le_of_ble_eq_true rfl, Nat.le_of_ble_eq_true rfl⟩) (pv_ps hC hPc hDc (ci := 12) (q0 := 0) rfl rfl) rfl rfl hl.1 rfl (lv_room (Nat.le_of_ble_eq_true rfl)) dL_law_962 ⟨Nat.le_of_ble_eq_true rfl, Nat.le_of_ble_eq_true rfl⟩) hS (fun q _ h => hFc q h) hFc (fun r_ u t_ H1 locs ht hvm hw hB hz1 hk1 hS => ?_)
    obtain ⟨hP, hD⟩ := va_join (wr := []) (w1 := []) hP hD [56, 57, 58, 59, 60, 61, 62, 63] [] rfl rfl (by decide) (by decide) hk1 hFc va_P0 va_D0
    generalize H1 = H at hP hS ⊢
    have hP : va_P (dC, dI) vwCl ([]) H := hP
    have hD : va_D A ([]) := hD
    rcases hw with ⟨c4509_, rfl⟩ | ⟨c4510_, rfl⟩ | ⟨c4511_, rfl⟩ | ⟨c4512_, rfl⟩ | ⟨c4513_, rfl⟩ | ⟨c4514_, rfl⟩ | ⟨c4515_, rfl⟩ | ⟨-, rfl⟩ | ⟨c4517_, rfl⟩ | ⟨c4518_, rfl⟩ | ⟨c4519_, rfl⟩ | ⟨c4520_, rfl⟩ | ⟨c4521_, rfl⟩ | ⟨c4522_, rfl⟩ | ⟨-, -, -, -, -, -, -, c4530_, -, -, -, -, -, -, -, rfl⟩ | ⟨-, -, -, -, -, -, -, c4545_, -, -, -, -, -, -, c4552_, c4553_, rfl⟩ | ⟨-, -, -, -, -, -, -, c4561_, -, -, -, -, -, -, c4568_, -, rfl⟩
    · skip
      exact absurd c4509_ (by decide)
    · skip
      exact absurd c4510_ (by decide)
    · skip
      exact absurd c4511_ (by decide)
    · skip
      exact absurd c4512_ (by decide)
    · skip
      exact absurd c4513_ (by decide)
    · skip
      exact absurd c4514_ (by decide)
    · skip
      exact absurd c4515_ (by decide)
    · skip
      refine lv_icmp_eq (tgt := 983) hx hb dL_law_965 (by decide) (fun _ => ?_) (fun c9_ => absurd (by decide) c9_)
      refine lv_iinc (v := 6) (lv' := [(3, .int 6), (2, .ref (b 0)), (1, .ref (a 0)), (0, .ref sc)]) hx hb dL_law_983 hl (k := 0) rfl (by decide) (by decide) rfl (fun ls hl => ?_)
      refine lv_goto (tgt := 18) hx hb dL_law_986 (by decide) ?_
      refine lv_iload_n hx hb dL_law_18 rfl (lv_at hl 0 rfl) ?_
      refine lv_aload_n hx hb dL_law_19 rfl (lv_at hl 3 rfl) ?_
      refine va_slen hx hb hX hbl hbA hS dL_law_20 ?_
      refine tk_i 6 (by decide) ?_
      refine lv_bipush (v := 6) hx hb dL_law_21 (by decide) ?_
      refine lv_isub hx hb dL_law_23 ?_
      refine tk_i 0 (by decide) ?_
      refine lv_icmp_gt (tgt := 989) hx hb dL_law_24 (by decide) (fun _ => ?_) (fun c9_ => absurd (by decide) c9_)
      refine lv_iconst (v := 1) hx hb dL_law_989 (by decide) ?_
      refine va_forget (fun q hq => by have h := hS.2.2 q hq; rw [hAe] at h; exact h) ?_
      refine W.widen (k := 600000) (n := 7302249) (Nat.le_of_ble_eq_true rfl) (Nat.le_of_ble_eq_true rfl) ?_
      exact lw_ret hx hb hr hlocks dL_law_990
    · skip
      exact absurd c4517_ (by decide)
    · skip
      exact absurd c4518_ (by decide)
    · skip
      exact absurd c4519_ (by decide)
    · skip
      exact absurd c4520_ (by decide)
    · skip
      exact absurd c4521_ (by decide)
    · skip
      exact absurd c4522_ (by decide)
    · skip
      exact absurd c4530_ (by decide)
    · skip
      exact absurd c4553_ (by decide)
    · skip
      exact absurd c4568_ (by decide)
  · skip
    subst c4029_
    refine lv_aload_n hx hb dL_law_956 rfl (lv_at hl 1 rfl) ?_
    refine lv_aload_n hx hb dL_law_957 rfl (lv_at hl 3 rfl) ?_
    refine lv_iload_n hx hb dL_law_958 rfl (lv_at hl 0 rfl) ?_
    refine lv_iconst (v := 1) hx hb dL_law_959 (by decide) ?_
    refine lv_iadd hx hb dL_law_960 ?_
    refine tk_i 1 (by decide) ?_
    refine va_sld hx hb hX hbl hbA hS (show ¬ ((1 : Int32) < 0 ∨ 6 ≤ Int32.toNatClampNeg 1) by decide) dL_law_961 ?_
    refine tk_i 8 ex1 ?_
    have hPc : va_P (dC, dI) vwCl (mw b cy) _ := hP.sub [56, 57, 58, 59, 60, 61, 62, 63] rfl
    have hDc := hD.sub (ws' := mw b cy) [56, 57, 58, 59, 60, 61, 62, 63] (by decide) rfl
    have hFc := va_free (wc := mw b cy) hD hS hA [56, 57, 58, 59, 60, 61, 62, 63] rfl
    refine va_calli (va_runV (As := [.int 8]) (rest := [.int 0]) ⟨hx, hb, hml, hown, hts⟩ (c_X12_count l dC dI cy b _ 8) (cwV 1 hts g_L_law_X12_count_130 rfl rfl rfl (by decide +kernel) ⟨Nat.le_of_ble_eq_true rfl, Nat.le_of_ble_eq_true rfl⟩) (pv_ps hC hPc hDc (ci := 12) (q0 := 0) rfl rfl) rfl rfl hl.1 rfl (lv_room (Nat.le_of_ble_eq_true rfl)) dL_law_962 ⟨Nat.le_of_ble_eq_true rfl, Nat.le_of_ble_eq_true rfl⟩) hS (fun q _ h => hFc q h) hFc (fun r_ u t_ H1 locs ht hvm hw hB hz1 hk1 hS => ?_)
    obtain ⟨hP, hD⟩ := va_join (wr := []) (w1 := []) hP hD [56, 57, 58, 59, 60, 61, 62, 63] [] rfl rfl (by decide) (by decide) hk1 hFc va_P0 va_D0
    generalize H1 = H at hP hS ⊢
    have hP : va_P (dC, dI) vwCl ([]) H := hP
    have hD : va_D A ([]) := hD
    rcases hw with ⟨c4570_, rfl⟩ | ⟨c4571_, rfl⟩ | ⟨c4572_, rfl⟩ | ⟨c4573_, rfl⟩ | ⟨c4574_, rfl⟩ | ⟨c4575_, rfl⟩ | ⟨c4576_, rfl⟩ | ⟨c4577_, rfl⟩ | ⟨-, rfl⟩ | ⟨c4579_, rfl⟩ | ⟨c4580_, rfl⟩ | ⟨c4581_, rfl⟩ | ⟨c4582_, rfl⟩ | ⟨c4583_, rfl⟩ | ⟨-, -, -, -, -, -, -, -, c4592_, -, -, -, -, -, -, rfl⟩ | ⟨-, -, -, -, -, -, -, -, c4607_, -, -, -, -, -, c4613_, c4614_, rfl⟩ | ⟨-, -, -, -, -, -, -, -, c4623_, -, -, -, -, -, c4629_, -, rfl⟩
    · skip
      exact absurd c4570_ (by decide)
    · skip
      exact absurd c4571_ (by decide)
    · skip
      exact absurd c4572_ (by decide)
    · skip
      exact absurd c4573_ (by decide)
    · skip
      exact absurd c4574_ (by decide)
    · skip
      exact absurd c4575_ (by decide)
    · skip
      exact absurd c4576_ (by decide)
    · skip
      exact absurd c4577_ (by decide)
    · skip
      refine lv_icmp_eq (tgt := 983) hx hb dL_law_965 (by decide) (fun _ => ?_) (fun c9_ => absurd (by decide) c9_)
      refine lv_iinc (v := 6) (lv' := [(3, .int 6), (2, .ref (b 0)), (1, .ref (a 0)), (0, .ref sc)]) hx hb dL_law_983 hl (k := 0) rfl (by decide) (by decide) rfl (fun ls hl => ?_)
      refine lv_goto (tgt := 18) hx hb dL_law_986 (by decide) ?_
      refine lv_iload_n hx hb dL_law_18 rfl (lv_at hl 0 rfl) ?_
      refine lv_aload_n hx hb dL_law_19 rfl (lv_at hl 3 rfl) ?_
      refine va_slen hx hb hX hbl hbA hS dL_law_20 ?_
      refine tk_i 6 (by decide) ?_
      refine lv_bipush (v := 6) hx hb dL_law_21 (by decide) ?_
      refine lv_isub hx hb dL_law_23 ?_
      refine tk_i 0 (by decide) ?_
      refine lv_icmp_gt (tgt := 989) hx hb dL_law_24 (by decide) (fun _ => ?_) (fun c9_ => absurd (by decide) c9_)
      refine lv_iconst (v := 1) hx hb dL_law_989 (by decide) ?_
      refine va_forget (fun q hq => by have h := hS.2.2 q hq; rw [hAe] at h; exact h) ?_
      refine W.widen (k := 600000) (n := 7302249) (Nat.le_of_ble_eq_true rfl) (Nat.le_of_ble_eq_true rfl) ?_
      exact lw_ret hx hb hr hlocks dL_law_990
    · skip
      exact absurd c4579_ (by decide)
    · skip
      exact absurd c4580_ (by decide)
    · skip
      exact absurd c4581_ (by decide)
    · skip
      exact absurd c4582_ (by decide)
    · skip
      exact absurd c4583_ (by decide)
    · skip
      exact absurd c4592_ (by decide)
    · skip
      exact absurd c4614_ (by decide)
    · skip
      exact absurd c4629_ (by decide)
  · skip
    subst c4030_
    refine lv_aload_n hx hb dL_law_956 rfl (lv_at hl 1 rfl) ?_
    refine lv_aload_n hx hb dL_law_957 rfl (lv_at hl 3 rfl) ?_
    refine lv_iload_n hx hb dL_law_958 rfl (lv_at hl 0 rfl) ?_
    refine lv_iconst (v := 1) hx hb dL_law_959 (by decide) ?_
    refine lv_iadd hx hb dL_law_960 ?_
    refine tk_i 1 (by decide) ?_
    refine va_sld hx hb hX hbl hbA hS (show ¬ ((1 : Int32) < 0 ∨ 6 ≤ Int32.toNatClampNeg 1) by decide) dL_law_961 ?_
    refine tk_i 9 ex1 ?_
    have hPc : va_P (dC, dI) vwCl (mw b cy) _ := hP.sub [56, 57, 58, 59, 60, 61, 62, 63] rfl
    have hDc := hD.sub (ws' := mw b cy) [56, 57, 58, 59, 60, 61, 62, 63] (by decide) rfl
    have hFc := va_free (wc := mw b cy) hD hS hA [56, 57, 58, 59, 60, 61, 62, 63] rfl
    refine va_calli (va_runV (As := [.int 9]) (rest := [.int 0]) ⟨hx, hb, hml, hown, hts⟩ (c_X12_count l dC dI cy b _ 9) (cwV 1 hts g_L_law_X12_count_130 rfl rfl rfl (by decide +kernel) ⟨Nat.le_of_ble_eq_true rfl, Nat.le_of_ble_eq_true rfl⟩) (pv_ps hC hPc hDc (ci := 12) (q0 := 0) rfl rfl) rfl rfl hl.1 rfl (lv_room (Nat.le_of_ble_eq_true rfl)) dL_law_962 ⟨Nat.le_of_ble_eq_true rfl, Nat.le_of_ble_eq_true rfl⟩) hS (fun q _ h => hFc q h) hFc (fun r_ u t_ H1 locs ht hvm hw hB hz1 hk1 hS => ?_)
    obtain ⟨hP, hD⟩ := va_join (wr := []) (w1 := []) hP hD [56, 57, 58, 59, 60, 61, 62, 63] [] rfl rfl (by decide) (by decide) hk1 hFc va_P0 va_D0
    generalize H1 = H at hP hS ⊢
    have hP : va_P (dC, dI) vwCl ([]) H := hP
    have hD : va_D A ([]) := hD
    rcases hw with ⟨c4631_, rfl⟩ | ⟨c4632_, rfl⟩ | ⟨c4633_, rfl⟩ | ⟨c4634_, rfl⟩ | ⟨c4635_, rfl⟩ | ⟨c4636_, rfl⟩ | ⟨c4637_, rfl⟩ | ⟨c4638_, rfl⟩ | ⟨c4639_, rfl⟩ | ⟨-, rfl⟩ | ⟨c4641_, rfl⟩ | ⟨c4642_, rfl⟩ | ⟨c4643_, rfl⟩ | ⟨c4644_, rfl⟩ | ⟨-, -, -, -, -, -, -, -, -, c4654_, -, -, -, -, -, rfl⟩ | ⟨-, -, -, -, -, -, -, -, -, c4669_, -, -, -, -, c4674_, c4675_, rfl⟩ | ⟨-, -, -, -, -, -, -, -, -, c4685_, -, -, -, -, c4690_, -, rfl⟩
    · skip
      exact absurd c4631_ (by decide)
    · skip
      exact absurd c4632_ (by decide)
    · skip
      exact absurd c4633_ (by decide)
    · skip
      exact absurd c4634_ (by decide)
    · skip
      exact absurd c4635_ (by decide)
    · skip
      exact absurd c4636_ (by decide)
    · skip
      exact absurd c4637_ (by decide)
    · skip
      exact absurd c4638_ (by decide)
    · skip
      exact absurd c4639_ (by decide)
    · skip
      refine lv_icmp_eq (tgt := 983) hx hb dL_law_965 (by decide) (fun _ => ?_) (fun c9_ => absurd (by decide) c9_)
      refine lv_iinc (v := 6) (lv' := [(3, .int 6), (2, .ref (b 0)), (1, .ref (a 0)), (0, .ref sc)]) hx hb dL_law_983 hl (k := 0) rfl (by decide) (by decide) rfl (fun ls hl => ?_)
      refine lv_goto (tgt := 18) hx hb dL_law_986 (by decide) ?_
      refine lv_iload_n hx hb dL_law_18 rfl (lv_at hl 0 rfl) ?_
      refine lv_aload_n hx hb dL_law_19 rfl (lv_at hl 3 rfl) ?_
      refine va_slen hx hb hX hbl hbA hS dL_law_20 ?_
      refine tk_i 6 (by decide) ?_
      refine lv_bipush (v := 6) hx hb dL_law_21 (by decide) ?_
      refine lv_isub hx hb dL_law_23 ?_
      refine tk_i 0 (by decide) ?_
      refine lv_icmp_gt (tgt := 989) hx hb dL_law_24 (by decide) (fun _ => ?_) (fun c9_ => absurd (by decide) c9_)
      refine lv_iconst (v := 1) hx hb dL_law_989 (by decide) ?_
      refine va_forget (fun q hq => by have h := hS.2.2 q hq; rw [hAe] at h; exact h) ?_
      refine W.widen (k := 600000) (n := 7302249) (Nat.le_of_ble_eq_true rfl) (Nat.le_of_ble_eq_true rfl) ?_
      exact lw_ret hx hb hr hlocks dL_law_990
    · skip
      exact absurd c4641_ (by decide)
    · skip
      exact absurd c4642_ (by decide)
    · skip
      exact absurd c4643_ (by decide)
    · skip
      exact absurd c4644_ (by decide)
    · skip
      exact absurd c4654_ (by decide)
    · skip
      exact absurd c4675_ (by decide)
    · skip
      exact absurd c4690_ (by decide)
  · skip
    subst c4031_
    refine lv_aload_n hx hb dL_law_956 rfl (lv_at hl 1 rfl) ?_
    refine lv_aload_n hx hb dL_law_957 rfl (lv_at hl 3 rfl) ?_
    refine lv_iload_n hx hb dL_law_958 rfl (lv_at hl 0 rfl) ?_
    refine lv_iconst (v := 1) hx hb dL_law_959 (by decide) ?_
    refine lv_iadd hx hb dL_law_960 ?_
    refine tk_i 1 (by decide) ?_
    refine va_sld hx hb hX hbl hbA hS (show ¬ ((1 : Int32) < 0 ∨ 6 ≤ Int32.toNatClampNeg 1) by decide) dL_law_961 ?_
    refine tk_i 10 ex1 ?_
    have hPc : va_P (dC, dI) vwCl (mw b cy) _ := hP.sub [56, 57, 58, 59, 60, 61, 62, 63] rfl
    have hDc := hD.sub (ws' := mw b cy) [56, 57, 58, 59, 60, 61, 62, 63] (by decide) rfl
    have hFc := va_free (wc := mw b cy) hD hS hA [56, 57, 58, 59, 60, 61, 62, 63] rfl
    refine va_calli (va_runV (As := [.int 10]) (rest := [.int 0]) ⟨hx, hb, hml, hown, hts⟩ (c_X12_count l dC dI cy b _ 10) (cwV 1 hts g_L_law_X12_count_130 rfl rfl rfl (by decide +kernel) ⟨Nat.le_of_ble_eq_true rfl, Nat.le_of_ble_eq_true rfl⟩) (pv_ps hC hPc hDc (ci := 12) (q0 := 0) rfl rfl) rfl rfl hl.1 rfl (lv_room (Nat.le_of_ble_eq_true rfl)) dL_law_962 ⟨Nat.le_of_ble_eq_true rfl, Nat.le_of_ble_eq_true rfl⟩) hS (fun q _ h => hFc q h) hFc (fun r_ u t_ H1 locs ht hvm hw hB hz1 hk1 hS => ?_)
    obtain ⟨hP, hD⟩ := va_join (wr := []) (w1 := []) hP hD [56, 57, 58, 59, 60, 61, 62, 63] [] rfl rfl (by decide) (by decide) hk1 hFc va_P0 va_D0
    generalize H1 = H at hP hS ⊢
    have hP : va_P (dC, dI) vwCl ([]) H := hP
    have hD : va_D A ([]) := hD
    rcases hw with ⟨c4692_, rfl⟩ | ⟨c4693_, rfl⟩ | ⟨c4694_, rfl⟩ | ⟨c4695_, rfl⟩ | ⟨c4696_, rfl⟩ | ⟨c4697_, rfl⟩ | ⟨c4698_, rfl⟩ | ⟨c4699_, rfl⟩ | ⟨c4700_, rfl⟩ | ⟨c4701_, rfl⟩ | ⟨-, rfl⟩ | ⟨c4703_, rfl⟩ | ⟨c4704_, rfl⟩ | ⟨c4705_, rfl⟩ | ⟨-, -, -, -, -, -, -, -, -, -, c4716_, -, -, -, -, rfl⟩ | ⟨-, -, -, -, -, -, -, -, -, -, c4731_, -, -, -, c4735_, c4736_, rfl⟩ | ⟨-, -, -, -, -, -, -, -, -, -, c4747_, -, -, -, c4751_, -, rfl⟩
    · skip
      exact absurd c4692_ (by decide)
    · skip
      exact absurd c4693_ (by decide)
    · skip
      exact absurd c4694_ (by decide)
    · skip
      exact absurd c4695_ (by decide)
    · skip
      exact absurd c4696_ (by decide)
    · skip
      exact absurd c4697_ (by decide)
    · skip
      exact absurd c4698_ (by decide)
    · skip
      exact absurd c4699_ (by decide)
    · skip
      exact absurd c4700_ (by decide)
    · skip
      exact absurd c4701_ (by decide)
    · skip
      refine lv_icmp_eq (tgt := 983) hx hb dL_law_965 (by decide) (fun _ => ?_) (fun c9_ => absurd (by decide) c9_)
      refine lv_iinc (v := 6) (lv' := [(3, .int 6), (2, .ref (b 0)), (1, .ref (a 0)), (0, .ref sc)]) hx hb dL_law_983 hl (k := 0) rfl (by decide) (by decide) rfl (fun ls hl => ?_)
      refine lv_goto (tgt := 18) hx hb dL_law_986 (by decide) ?_
      refine lv_iload_n hx hb dL_law_18 rfl (lv_at hl 0 rfl) ?_
      refine lv_aload_n hx hb dL_law_19 rfl (lv_at hl 3 rfl) ?_
      refine va_slen hx hb hX hbl hbA hS dL_law_20 ?_
      refine tk_i 6 (by decide) ?_
      refine lv_bipush (v := 6) hx hb dL_law_21 (by decide) ?_
      refine lv_isub hx hb dL_law_23 ?_
      refine tk_i 0 (by decide) ?_
      refine lv_icmp_gt (tgt := 989) hx hb dL_law_24 (by decide) (fun _ => ?_) (fun c9_ => absurd (by decide) c9_)
      refine lv_iconst (v := 1) hx hb dL_law_989 (by decide) ?_
      refine va_forget (fun q hq => by have h := hS.2.2 q hq; rw [hAe] at h; exact h) ?_
      refine W.widen (k := 600000) (n := 7302249) (Nat.le_of_ble_eq_true rfl) (Nat.le_of_ble_eq_true rfl) ?_
      exact lw_ret hx hb hr hlocks dL_law_990
    · skip
      exact absurd c4703_ (by decide)
    · skip
      exact absurd c4704_ (by decide)
    · skip
      exact absurd c4705_ (by decide)
    · skip
      exact absurd c4716_ (by decide)
    · skip
      exact absurd c4736_ (by decide)
    · skip
      exact absurd c4751_ (by decide)
  · skip
    subst c4032_
    refine lv_aload_n hx hb dL_law_956 rfl (lv_at hl 1 rfl) ?_
    refine lv_aload_n hx hb dL_law_957 rfl (lv_at hl 3 rfl) ?_
    refine lv_iload_n hx hb dL_law_958 rfl (lv_at hl 0 rfl) ?_
    refine lv_iconst (v := 1) hx hb dL_law_959 (by decide) ?_
    refine lv_iadd hx hb dL_law_960 ?_
    refine tk_i 1 (by decide) ?_
    refine va_sld hx hb hX hbl hbA hS (show ¬ ((1 : Int32) < 0 ∨ 6 ≤ Int32.toNatClampNeg 1) by decide) dL_law_961 ?_
    refine tk_i 11 ex1 ?_
    have hPc : va_P (dC, dI) vwCl (mw b cy) _ := hP.sub [56, 57, 58, 59, 60, 61, 62, 63] rfl
    have hDc := hD.sub (ws' := mw b cy) [56, 57, 58, 59, 60, 61, 62, 63] (by decide) rfl
    have hFc := va_free (wc := mw b cy) hD hS hA [56, 57, 58, 59, 60, 61, 62, 63] rfl
    refine va_calli (va_runV (As := [.int 11]) (rest := [.int 0]) ⟨hx, hb, hml, hown, hts⟩ (c_X12_count l dC dI cy b _ 11) (cwV 1 hts g_L_law_X12_count_130 rfl rfl rfl (by decide +kernel) ⟨Nat.le_of_ble_eq_true rfl, Nat.le_of_ble_eq_true rfl⟩) (pv_ps hC hPc hDc (ci := 12) (q0 := 0) rfl rfl) rfl rfl hl.1 rfl (lv_room (Nat.le_of_ble_eq_true rfl)) dL_law_962 ⟨Nat.le_of_ble_eq_true rfl, Nat.le_of_ble_eq_true rfl⟩) hS (fun q _ h => hFc q h) hFc (fun r_ u t_ H1 locs ht hvm hw hB hz1 hk1 hS => ?_)
    obtain ⟨hP, hD⟩ := va_join (wr := []) (w1 := []) hP hD [56, 57, 58, 59, 60, 61, 62, 63] [] rfl rfl (by decide) (by decide) hk1 hFc va_P0 va_D0
    generalize H1 = H at hP hS ⊢
    have hP : va_P (dC, dI) vwCl ([]) H := hP
    have hD : va_D A ([]) := hD
    rcases hw with ⟨c4753_, rfl⟩ | ⟨c4754_, rfl⟩ | ⟨c4755_, rfl⟩ | ⟨c4756_, rfl⟩ | ⟨c4757_, rfl⟩ | ⟨c4758_, rfl⟩ | ⟨c4759_, rfl⟩ | ⟨c4760_, rfl⟩ | ⟨c4761_, rfl⟩ | ⟨c4762_, rfl⟩ | ⟨c4763_, rfl⟩ | ⟨-, rfl⟩ | ⟨c4765_, rfl⟩ | ⟨c4766_, rfl⟩ | ⟨-, -, -, -, -, -, -, -, -, -, -, c4778_, -, -, -, rfl⟩ | ⟨-, -, -, -, -, -, -, -, -, -, -, c4793_, -, -, c4796_, c4797_, rfl⟩ | ⟨-, -, -, -, -, -, -, -, -, -, -, c4809_, -, -, c4812_, -, rfl⟩
    · skip
      exact absurd c4753_ (by decide)
    · skip
      exact absurd c4754_ (by decide)
    · skip
      exact absurd c4755_ (by decide)
    · skip
      exact absurd c4756_ (by decide)
    · skip
      exact absurd c4757_ (by decide)
    · skip
      exact absurd c4758_ (by decide)
    · skip
      exact absurd c4759_ (by decide)
    · skip
      exact absurd c4760_ (by decide)
    · skip
      exact absurd c4761_ (by decide)
    · skip
      exact absurd c4762_ (by decide)
    · skip
      exact absurd c4763_ (by decide)
    · skip
      refine lv_icmp_eq (tgt := 983) hx hb dL_law_965 (by decide) (fun _ => ?_) (fun c9_ => absurd (by decide) c9_)
      refine lv_iinc (v := 6) (lv' := [(3, .int 6), (2, .ref (b 0)), (1, .ref (a 0)), (0, .ref sc)]) hx hb dL_law_983 hl (k := 0) rfl (by decide) (by decide) rfl (fun ls hl => ?_)
      refine lv_goto (tgt := 18) hx hb dL_law_986 (by decide) ?_
      refine lv_iload_n hx hb dL_law_18 rfl (lv_at hl 0 rfl) ?_
      refine lv_aload_n hx hb dL_law_19 rfl (lv_at hl 3 rfl) ?_
      refine va_slen hx hb hX hbl hbA hS dL_law_20 ?_
      refine tk_i 6 (by decide) ?_
      refine lv_bipush (v := 6) hx hb dL_law_21 (by decide) ?_
      refine lv_isub hx hb dL_law_23 ?_
      refine tk_i 0 (by decide) ?_
      refine lv_icmp_gt (tgt := 989) hx hb dL_law_24 (by decide) (fun _ => ?_) (fun c9_ => absurd (by decide) c9_)
      refine lv_iconst (v := 1) hx hb dL_law_989 (by decide) ?_
      refine va_forget (fun q hq => by have h := hS.2.2 q hq; rw [hAe] at h; exact h) ?_
      refine W.widen (k := 600000) (n := 7302249) (Nat.le_of_ble_eq_true rfl) (Nat.le_of_ble_eq_true rfl) ?_
      exact lw_ret hx hb hr hlocks dL_law_990
    · skip
      exact absurd c4765_ (by decide)
    · skip
      exact absurd c4766_ (by decide)
    · skip
      exact absurd c4778_ (by decide)
    · skip
      exact absurd c4797_ (by decide)
    · skip
      exact absurd c4812_ (by decide)
  · skip
    subst c4033_
    refine lv_aload_n hx hb dL_law_956 rfl (lv_at hl 1 rfl) ?_
    refine lv_aload_n hx hb dL_law_957 rfl (lv_at hl 3 rfl) ?_
    refine lv_iload_n hx hb dL_law_958 rfl (lv_at hl 0 rfl) ?_
    refine lv_iconst (v := 1) hx hb dL_law_959 (by decide) ?_
    refine lv_iadd hx hb dL_law_960 ?_
    refine tk_i 1 (by decide) ?_
    refine va_sld hx hb hX hbl hbA hS (show ¬ ((1 : Int32) < 0 ∨ 6 ≤ Int32.toNatClampNeg 1) by decide) dL_law_961 ?_
    refine tk_i 12 ex1 ?_
    have hPc : va_P (dC, dI) vwCl (mw b cy) _ := hP.sub [56, 57, 58, 59, 60, 61, 62, 63] rfl
    have hDc := hD.sub (ws' := mw b cy) [56, 57, 58, 59, 60, 61, 62, 63] (by decide) rfl
    have hFc := va_free (wc := mw b cy) hD hS hA [56, 57, 58, 59, 60, 61, 62, 63] rfl
    refine va_calli (va_runV (As := [.int 12]) (rest := [.int 0]) ⟨hx, hb, hml, hown, hts⟩ (c_X12_count l dC dI cy b _ 12) (cwV 1 hts g_L_law_X12_count_130 rfl rfl rfl (by decide +kernel) ⟨Nat.le_of_ble_eq_true rfl, Nat.le_of_ble_eq_true rfl⟩) (pv_ps hC hPc hDc (ci := 12) (q0 := 0) rfl rfl) rfl rfl hl.1 rfl (lv_room (Nat.le_of_ble_eq_true rfl)) dL_law_962 ⟨Nat.le_of_ble_eq_true rfl, Nat.le_of_ble_eq_true rfl⟩) hS (fun q _ h => hFc q h) hFc (fun r_ u t_ H1 locs ht hvm hw hB hz1 hk1 hS => ?_)
    obtain ⟨hP, hD⟩ := va_join (wr := []) (w1 := []) hP hD [56, 57, 58, 59, 60, 61, 62, 63] [] rfl rfl (by decide) (by decide) hk1 hFc va_P0 va_D0
    generalize H1 = H at hP hS ⊢
    have hP : va_P (dC, dI) vwCl ([]) H := hP
    have hD : va_D A ([]) := hD
    rcases hw with ⟨c4814_, rfl⟩ | ⟨c4815_, rfl⟩ | ⟨c4816_, rfl⟩ | ⟨c4817_, rfl⟩ | ⟨c4818_, rfl⟩ | ⟨c4819_, rfl⟩ | ⟨c4820_, rfl⟩ | ⟨c4821_, rfl⟩ | ⟨c4822_, rfl⟩ | ⟨c4823_, rfl⟩ | ⟨c4824_, rfl⟩ | ⟨c4825_, rfl⟩ | ⟨-, rfl⟩ | ⟨c4827_, rfl⟩ | ⟨-, -, -, -, -, -, -, -, -, -, -, -, c4840_, -, -, rfl⟩ | ⟨-, -, -, -, -, -, -, -, -, -, -, -, c4855_, -, c4857_, c4858_, rfl⟩ | ⟨-, -, -, -, -, -, -, -, -, -, -, -, c4871_, -, c4873_, -, rfl⟩
    · skip
      exact absurd c4814_ (by decide)
    · skip
      exact absurd c4815_ (by decide)
    · skip
      exact absurd c4816_ (by decide)
    · skip
      exact absurd c4817_ (by decide)
    · skip
      exact absurd c4818_ (by decide)
    · skip
      exact absurd c4819_ (by decide)
    · skip
      exact absurd c4820_ (by decide)
    · skip
      exact absurd c4821_ (by decide)
    · skip
      exact absurd c4822_ (by decide)
    · skip
      exact absurd c4823_ (by decide)
    · skip
      exact absurd c4824_ (by decide)
    · skip
      exact absurd c4825_ (by decide)
    · skip
      refine lv_icmp_eq (tgt := 983) hx hb dL_law_965 (by decide) (fun _ => ?_) (fun c9_ => absurd (by decide) c9_)
      refine lv_iinc (v := 6) (lv' := [(3, .int 6), (2, .ref (b 0)), (1, .ref (a 0)), (0, .ref sc)]) hx hb dL_law_983 hl (k := 0) rfl (by decide) (by decide) rfl (fun ls hl => ?_)
      refine lv_goto (tgt := 18) hx hb dL_law_986 (by decide) ?_
      refine lv_iload_n hx hb dL_law_18 rfl (lv_at hl 0 rfl) ?_
      refine lv_aload_n hx hb dL_law_19 rfl (lv_at hl 3 rfl) ?_
      refine va_slen hx hb hX hbl hbA hS dL_law_20 ?_
      refine tk_i 6 (by decide) ?_
      refine lv_bipush (v := 6) hx hb dL_law_21 (by decide) ?_
      refine lv_isub hx hb dL_law_23 ?_
      refine tk_i 0 (by decide) ?_
      refine lv_icmp_gt (tgt := 989) hx hb dL_law_24 (by decide) (fun _ => ?_) (fun c9_ => absurd (by decide) c9_)
      refine lv_iconst (v := 1) hx hb dL_law_989 (by decide) ?_
      refine va_forget (fun q hq => by have h := hS.2.2 q hq; rw [hAe] at h; exact h) ?_
      refine W.widen (k := 600000) (n := 7302249) (Nat.le_of_ble_eq_true rfl) (Nat.le_of_ble_eq_true rfl) ?_
      exact lw_ret hx hb hr hlocks dL_law_990
    · skip
      exact absurd c4827_ (by decide)
    · skip
      exact absurd c4840_ (by decide)
    · skip
      exact absurd c4858_ (by decide)
    · skip
      exact absurd c4873_ (by decide)
  · skip
    subst c4034_
    refine lv_aload_n hx hb dL_law_956 rfl (lv_at hl 1 rfl) ?_
    refine lv_aload_n hx hb dL_law_957 rfl (lv_at hl 3 rfl) ?_
    refine lv_iload_n hx hb dL_law_958 rfl (lv_at hl 0 rfl) ?_
    refine lv_iconst (v := 1) hx hb dL_law_959 (by decide) ?_
    refine lv_iadd hx hb dL_law_960 ?_
    refine tk_i 1 (by decide) ?_
    refine va_sld hx hb hX hbl hbA hS (show ¬ ((1 : Int32) < 0 ∨ 6 ≤ Int32.toNatClampNeg 1) by decide) dL_law_961 ?_
    refine tk_i 13 ex1 ?_
    have hPc : va_P (dC, dI) vwCl (mw b cy) _ := hP.sub [56, 57, 58, 59, 60, 61, 62, 63] rfl
    have hDc := hD.sub (ws' := mw b cy) [56, 57, 58, 59, 60, 61, 62, 63] (by decide) rfl
    have hFc := va_free (wc := mw b cy) hD hS hA [56, 57, 58, 59, 60, 61, 62, 63] rfl
    refine va_calli (va_runV (As := [.int 13]) (rest := [.int 0]) ⟨hx, hb, hml, hown, hts⟩ (c_X12_count l dC dI cy b _ 13) (cwV 1 hts g_L_law_X12_count_130 rfl rfl rfl (by decide +kernel) ⟨Nat.le_of_ble_eq_true rfl, Nat.le_of_ble_eq_true rfl⟩) (pv_ps hC hPc hDc (ci := 12) (q0 := 0) rfl rfl) rfl rfl hl.1 rfl (lv_room (Nat.le_of_ble_eq_true rfl)) dL_law_962 ⟨Nat.le_of_ble_eq_true rfl, Nat.le_of_ble_eq_true rfl⟩) hS (fun q _ h => hFc q h) hFc (fun r_ u t_ H1 locs ht hvm hw hB hz1 hk1 hS => ?_)
    obtain ⟨hP, hD⟩ := va_join (wr := []) (w1 := []) hP hD [56, 57, 58, 59, 60, 61, 62, 63] [] rfl rfl (by decide) (by decide) hk1 hFc va_P0 va_D0
    generalize H1 = H at hP hS ⊢
    have hP : va_P (dC, dI) vwCl ([]) H := hP
    have hD : va_D A ([]) := hD
    rcases hw with ⟨c4875_, rfl⟩ | ⟨c4876_, rfl⟩ | ⟨c4877_, rfl⟩ | ⟨c4878_, rfl⟩ | ⟨c4879_, rfl⟩ | ⟨c4880_, rfl⟩ | ⟨c4881_, rfl⟩ | ⟨c4882_, rfl⟩ | ⟨c4883_, rfl⟩ | ⟨c4884_, rfl⟩ | ⟨c4885_, rfl⟩ | ⟨c4886_, rfl⟩ | ⟨c4887_, rfl⟩ | ⟨-, rfl⟩ | ⟨-, -, -, -, -, -, -, -, -, -, -, -, -, c4902_, -, rfl⟩ | ⟨-, -, -, -, -, -, -, -, -, -, -, -, -, c4917_, c4918_, c4919_, rfl⟩ | ⟨-, -, -, -, -, -, -, -, -, -, -, -, -, c4933_, c4934_, -, rfl⟩
    · skip
      exact absurd c4875_ (by decide)
    · skip
      exact absurd c4876_ (by decide)
    · skip
      exact absurd c4877_ (by decide)
    · skip
      exact absurd c4878_ (by decide)
    · skip
      exact absurd c4879_ (by decide)
    · skip
      exact absurd c4880_ (by decide)
    · skip
      exact absurd c4881_ (by decide)
    · skip
      exact absurd c4882_ (by decide)
    · skip
      exact absurd c4883_ (by decide)
    · skip
      exact absurd c4884_ (by decide)
    · skip
      exact absurd c4885_ (by decide)
    · skip
      exact absurd c4886_ (by decide)
    · skip
      exact absurd c4887_ (by decide)
    · skip
      refine lv_icmp_eq (tgt := 983) hx hb dL_law_965 (by decide) (fun _ => ?_) (fun c9_ => absurd (by decide) c9_)
      refine lv_iinc (v := 6) (lv' := [(3, .int 6), (2, .ref (b 0)), (1, .ref (a 0)), (0, .ref sc)]) hx hb dL_law_983 hl (k := 0) rfl (by decide) (by decide) rfl (fun ls hl => ?_)
      refine lv_goto (tgt := 18) hx hb dL_law_986 (by decide) ?_
      refine lv_iload_n hx hb dL_law_18 rfl (lv_at hl 0 rfl) ?_
      refine lv_aload_n hx hb dL_law_19 rfl (lv_at hl 3 rfl) ?_
      refine va_slen hx hb hX hbl hbA hS dL_law_20 ?_
      refine tk_i 6 (by decide) ?_
      refine lv_bipush (v := 6) hx hb dL_law_21 (by decide) ?_
      refine lv_isub hx hb dL_law_23 ?_
      refine tk_i 0 (by decide) ?_
      refine lv_icmp_gt (tgt := 989) hx hb dL_law_24 (by decide) (fun _ => ?_) (fun c9_ => absurd (by decide) c9_)
      refine lv_iconst (v := 1) hx hb dL_law_989 (by decide) ?_
      refine va_forget (fun q hq => by have h := hS.2.2 q hq; rw [hAe] at h; exact h) ?_
      refine W.widen (k := 600000) (n := 7302249) (Nat.le_of_ble_eq_true rfl) (Nat.le_of_ble_eq_true rfl) ?_
      exact lw_ret hx hb hr hlocks dL_law_990
    · skip
      exact absurd c4902_ (by decide)
    · skip
      exact absurd c4919_ (by decide)
    · skip
      exact absurd c4934_ (by decide)
  · skip
    refine lv_aload_n hx hb dL_law_956 rfl (lv_at hl 1 rfl) ?_
    refine lv_aload_n hx hb dL_law_957 rfl (lv_at hl 3 rfl) ?_
    refine lv_iload_n hx hb dL_law_958 rfl (lv_at hl 0 rfl) ?_
    refine lv_iconst (v := 1) hx hb dL_law_959 (by decide) ?_
    refine lv_iadd hx hb dL_law_960 ?_
    refine tk_i 1 (by decide) ?_
    refine va_sld hx hb hX hbl hbA hS (show ¬ ((1 : Int32) < 0 ∨ 6 ≤ Int32.toNatClampNeg 1) by decide) dL_law_961 ?_
    refine tk_i x1 ex1 ?_
    have hPc : va_P (dC, dI) vwCl (mw b cy) _ := hP.sub [56, 57, 58, 59, 60, 61, 62, 63] rfl
    have hDc := hD.sub (ws' := mw b cy) [56, 57, 58, 59, 60, 61, 62, 63] (by decide) rfl
    have hFc := va_free (wc := mw b cy) hD hS hA [56, 57, 58, 59, 60, 61, 62, 63] rfl
    refine va_calli (va_runV (As := [.int x1]) (rest := [.int (-1)]) ⟨hx, hb, hml, hown, hts⟩ (c_X12_count l dC dI cy b _ x1) (cwV 1 hts g_L_law_X12_count_130 rfl rfl rfl (by decide +kernel) ⟨Nat.le_of_ble_eq_true rfl, Nat.le_of_ble_eq_true rfl⟩) (pv_ps hC hPc hDc (ci := 12) (q0 := 0) rfl rfl) rfl rfl hl.1 rfl (lv_room (Nat.le_of_ble_eq_true rfl)) dL_law_962 ⟨Nat.le_of_ble_eq_true rfl, Nat.le_of_ble_eq_true rfl⟩) hS (fun q _ h => hFc q h) hFc (fun r_ u t_ H1 locs ht hvm hw hB hz1 hk1 hS => ?_)
    obtain ⟨hP, hD⟩ := va_join (wr := []) (w1 := []) hP hD [56, 57, 58, 59, 60, 61, 62, 63] [] rfl rfl (by decide) (by decide) hk1 hFc va_P0 va_D0
    generalize H1 = H at hP hS ⊢
    have hP : va_P (dC, dI) vwCl ([]) H := hP
    have hD : va_D A ([]) := hD
    rcases hw with ⟨c4936_, rfl⟩ | ⟨c4937_, rfl⟩ | ⟨c4938_, rfl⟩ | ⟨c4939_, rfl⟩ | ⟨c4940_, rfl⟩ | ⟨c4941_, rfl⟩ | ⟨c4942_, rfl⟩ | ⟨c4943_, rfl⟩ | ⟨c4944_, rfl⟩ | ⟨c4945_, rfl⟩ | ⟨c4946_, rfl⟩ | ⟨c4947_, rfl⟩ | ⟨c4948_, rfl⟩ | ⟨c4949_, rfl⟩ | ⟨c4950_, c4951_, c4952_, c4953_, c4954_, c4955_, c4956_, c4957_, c4958_, c4959_, c4960_, c4961_, c4962_, c4963_, c4964_, rfl⟩ | ⟨c4965_, c4966_, c4967_, c4968_, c4969_, c4970_, c4971_, c4972_, c4973_, c4974_, c4975_, c4976_, c4977_, c4978_, c4979_, c4980_, rfl⟩ | ⟨c4981_, c4982_, c4983_, c4984_, c4985_, c4986_, c4987_, c4988_, c4989_, c4990_, c4991_, c4992_, c4993_, c4994_, c4995_, c4996_, rfl⟩
    · skip
      exfalso
      have z0_ := tz_neq_r c4035_ (show (0 : Int32).toInt = 0 by decide)
      have z1_ := tz_neq_r c4036_ (show (1 : Int32).toInt = 1 by decide)
      have z2_ := tz_neq_r c4037_ (show (2 : Int32).toInt = 2 by decide)
      have z3_ := tz_neq_r c4038_ (show (3 : Int32).toInt = 3 by decide)
      have z4_ := tz_neq_r c4039_ (show (4 : Int32).toInt = 4 by decide)
      have z5_ := tz_neq_r c4040_ (show (5 : Int32).toInt = 5 by decide)
      have z6_ := tz_neq_r c4041_ (show (6 : Int32).toInt = 6 by decide)
      have z7_ := tz_neq_r c4042_ (show (7 : Int32).toInt = 7 by decide)
      have z8_ := tz_neq_r c4043_ (show (8 : Int32).toInt = 8 by decide)
      have z9_ := tz_neq_r c4044_ (show (9 : Int32).toInt = 9 by decide)
      have z10_ := tz_neq_r c4045_ (show (10 : Int32).toInt = 10 by decide)
      have z11_ := tz_neq_r c4046_ (show (11 : Int32).toInt = 11 by decide)
      have z12_ := tz_neq_r c4047_ (show (12 : Int32).toInt = 12 by decide)
      have z13_ := tz_neq_r c4048_ (show (13 : Int32).toInt = 13 by decide)
      have z14_ := tz_lt_r c4049_ (show (14 : Int32).toInt = 14 by decide)
      have z15_ := tz_eq_r c4936_ (show (0 : Int32).toInt = 0 by decide)
      omega
    · skip
      exfalso
      have z0_ := tz_neq_r c4035_ (show (0 : Int32).toInt = 0 by decide)
      have z1_ := tz_neq_r c4036_ (show (1 : Int32).toInt = 1 by decide)
      have z2_ := tz_neq_r c4037_ (show (2 : Int32).toInt = 2 by decide)
      have z3_ := tz_neq_r c4038_ (show (3 : Int32).toInt = 3 by decide)
      have z4_ := tz_neq_r c4039_ (show (4 : Int32).toInt = 4 by decide)
      have z5_ := tz_neq_r c4040_ (show (5 : Int32).toInt = 5 by decide)
      have z6_ := tz_neq_r c4041_ (show (6 : Int32).toInt = 6 by decide)
      have z7_ := tz_neq_r c4042_ (show (7 : Int32).toInt = 7 by decide)
      have z8_ := tz_neq_r c4043_ (show (8 : Int32).toInt = 8 by decide)
      have z9_ := tz_neq_r c4044_ (show (9 : Int32).toInt = 9 by decide)
      have z10_ := tz_neq_r c4045_ (show (10 : Int32).toInt = 10 by decide)
      have z11_ := tz_neq_r c4046_ (show (11 : Int32).toInt = 11 by decide)
      have z12_ := tz_neq_r c4047_ (show (12 : Int32).toInt = 12 by decide)
      have z13_ := tz_neq_r c4048_ (show (13 : Int32).toInt = 13 by decide)
      have z14_ := tz_lt_r c4049_ (show (14 : Int32).toInt = 14 by decide)
      have z15_ := tz_eq_r c4937_ (show (1 : Int32).toInt = 1 by decide)
      omega
    · skip
      exfalso
      have z0_ := tz_neq_r c4035_ (show (0 : Int32).toInt = 0 by decide)
      have z1_ := tz_neq_r c4036_ (show (1 : Int32).toInt = 1 by decide)
      have z2_ := tz_neq_r c4037_ (show (2 : Int32).toInt = 2 by decide)
      have z3_ := tz_neq_r c4038_ (show (3 : Int32).toInt = 3 by decide)
      have z4_ := tz_neq_r c4039_ (show (4 : Int32).toInt = 4 by decide)
      have z5_ := tz_neq_r c4040_ (show (5 : Int32).toInt = 5 by decide)
      have z6_ := tz_neq_r c4041_ (show (6 : Int32).toInt = 6 by decide)
      have z7_ := tz_neq_r c4042_ (show (7 : Int32).toInt = 7 by decide)
      have z8_ := tz_neq_r c4043_ (show (8 : Int32).toInt = 8 by decide)
      have z9_ := tz_neq_r c4044_ (show (9 : Int32).toInt = 9 by decide)
      have z10_ := tz_neq_r c4045_ (show (10 : Int32).toInt = 10 by decide)
      have z11_ := tz_neq_r c4046_ (show (11 : Int32).toInt = 11 by decide)
      have z12_ := tz_neq_r c4047_ (show (12 : Int32).toInt = 12 by decide)
      have z13_ := tz_neq_r c4048_ (show (13 : Int32).toInt = 13 by decide)
      have z14_ := tz_lt_r c4049_ (show (14 : Int32).toInt = 14 by decide)
      have z15_ := tz_eq_r c4938_ (show (2 : Int32).toInt = 2 by decide)
      omega
    · skip
      exfalso
      have z0_ := tz_neq_r c4035_ (show (0 : Int32).toInt = 0 by decide)
      have z1_ := tz_neq_r c4036_ (show (1 : Int32).toInt = 1 by decide)
      have z2_ := tz_neq_r c4037_ (show (2 : Int32).toInt = 2 by decide)
      have z3_ := tz_neq_r c4038_ (show (3 : Int32).toInt = 3 by decide)
      have z4_ := tz_neq_r c4039_ (show (4 : Int32).toInt = 4 by decide)
      have z5_ := tz_neq_r c4040_ (show (5 : Int32).toInt = 5 by decide)
      have z6_ := tz_neq_r c4041_ (show (6 : Int32).toInt = 6 by decide)
      have z7_ := tz_neq_r c4042_ (show (7 : Int32).toInt = 7 by decide)
      have z8_ := tz_neq_r c4043_ (show (8 : Int32).toInt = 8 by decide)
      have z9_ := tz_neq_r c4044_ (show (9 : Int32).toInt = 9 by decide)
      have z10_ := tz_neq_r c4045_ (show (10 : Int32).toInt = 10 by decide)
      have z11_ := tz_neq_r c4046_ (show (11 : Int32).toInt = 11 by decide)
      have z12_ := tz_neq_r c4047_ (show (12 : Int32).toInt = 12 by decide)
      have z13_ := tz_neq_r c4048_ (show (13 : Int32).toInt = 13 by decide)
      have z14_ := tz_lt_r c4049_ (show (14 : Int32).toInt = 14 by decide)
      have z15_ := tz_eq_r c4939_ (show (3 : Int32).toInt = 3 by decide)
      omega
    · skip
      exfalso
      have z0_ := tz_neq_r c4035_ (show (0 : Int32).toInt = 0 by decide)
      have z1_ := tz_neq_r c4036_ (show (1 : Int32).toInt = 1 by decide)
      have z2_ := tz_neq_r c4037_ (show (2 : Int32).toInt = 2 by decide)
      have z3_ := tz_neq_r c4038_ (show (3 : Int32).toInt = 3 by decide)
      have z4_ := tz_neq_r c4039_ (show (4 : Int32).toInt = 4 by decide)
      have z5_ := tz_neq_r c4040_ (show (5 : Int32).toInt = 5 by decide)
      have z6_ := tz_neq_r c4041_ (show (6 : Int32).toInt = 6 by decide)
      have z7_ := tz_neq_r c4042_ (show (7 : Int32).toInt = 7 by decide)
      have z8_ := tz_neq_r c4043_ (show (8 : Int32).toInt = 8 by decide)
      have z9_ := tz_neq_r c4044_ (show (9 : Int32).toInt = 9 by decide)
      have z10_ := tz_neq_r c4045_ (show (10 : Int32).toInt = 10 by decide)
      have z11_ := tz_neq_r c4046_ (show (11 : Int32).toInt = 11 by decide)
      have z12_ := tz_neq_r c4047_ (show (12 : Int32).toInt = 12 by decide)
      have z13_ := tz_neq_r c4048_ (show (13 : Int32).toInt = 13 by decide)
      have z14_ := tz_lt_r c4049_ (show (14 : Int32).toInt = 14 by decide)
      have z15_ := tz_eq_r c4940_ (show (4 : Int32).toInt = 4 by decide)
      omega
    · skip
      exfalso
      have z0_ := tz_neq_r c4035_ (show (0 : Int32).toInt = 0 by decide)
      have z1_ := tz_neq_r c4036_ (show (1 : Int32).toInt = 1 by decide)
      have z2_ := tz_neq_r c4037_ (show (2 : Int32).toInt = 2 by decide)
      have z3_ := tz_neq_r c4038_ (show (3 : Int32).toInt = 3 by decide)
      have z4_ := tz_neq_r c4039_ (show (4 : Int32).toInt = 4 by decide)
      have z5_ := tz_neq_r c4040_ (show (5 : Int32).toInt = 5 by decide)
      have z6_ := tz_neq_r c4041_ (show (6 : Int32).toInt = 6 by decide)
      have z7_ := tz_neq_r c4042_ (show (7 : Int32).toInt = 7 by decide)
      have z8_ := tz_neq_r c4043_ (show (8 : Int32).toInt = 8 by decide)
      have z9_ := tz_neq_r c4044_ (show (9 : Int32).toInt = 9 by decide)
      have z10_ := tz_neq_r c4045_ (show (10 : Int32).toInt = 10 by decide)
      have z11_ := tz_neq_r c4046_ (show (11 : Int32).toInt = 11 by decide)
      have z12_ := tz_neq_r c4047_ (show (12 : Int32).toInt = 12 by decide)
      have z13_ := tz_neq_r c4048_ (show (13 : Int32).toInt = 13 by decide)
      have z14_ := tz_lt_r c4049_ (show (14 : Int32).toInt = 14 by decide)
      have z15_ := tz_eq_r c4941_ (show (5 : Int32).toInt = 5 by decide)
      omega
    · skip
      exfalso
      have z0_ := tz_neq_r c4035_ (show (0 : Int32).toInt = 0 by decide)
      have z1_ := tz_neq_r c4036_ (show (1 : Int32).toInt = 1 by decide)
      have z2_ := tz_neq_r c4037_ (show (2 : Int32).toInt = 2 by decide)
      have z3_ := tz_neq_r c4038_ (show (3 : Int32).toInt = 3 by decide)
      have z4_ := tz_neq_r c4039_ (show (4 : Int32).toInt = 4 by decide)
      have z5_ := tz_neq_r c4040_ (show (5 : Int32).toInt = 5 by decide)
      have z6_ := tz_neq_r c4041_ (show (6 : Int32).toInt = 6 by decide)
      have z7_ := tz_neq_r c4042_ (show (7 : Int32).toInt = 7 by decide)
      have z8_ := tz_neq_r c4043_ (show (8 : Int32).toInt = 8 by decide)
      have z9_ := tz_neq_r c4044_ (show (9 : Int32).toInt = 9 by decide)
      have z10_ := tz_neq_r c4045_ (show (10 : Int32).toInt = 10 by decide)
      have z11_ := tz_neq_r c4046_ (show (11 : Int32).toInt = 11 by decide)
      have z12_ := tz_neq_r c4047_ (show (12 : Int32).toInt = 12 by decide)
      have z13_ := tz_neq_r c4048_ (show (13 : Int32).toInt = 13 by decide)
      have z14_ := tz_lt_r c4049_ (show (14 : Int32).toInt = 14 by decide)
      have z15_ := tz_eq_r c4942_ (show (6 : Int32).toInt = 6 by decide)
      omega
    · skip
      exfalso
      have z0_ := tz_neq_r c4035_ (show (0 : Int32).toInt = 0 by decide)
      have z1_ := tz_neq_r c4036_ (show (1 : Int32).toInt = 1 by decide)
      have z2_ := tz_neq_r c4037_ (show (2 : Int32).toInt = 2 by decide)
      have z3_ := tz_neq_r c4038_ (show (3 : Int32).toInt = 3 by decide)
      have z4_ := tz_neq_r c4039_ (show (4 : Int32).toInt = 4 by decide)
      have z5_ := tz_neq_r c4040_ (show (5 : Int32).toInt = 5 by decide)
      have z6_ := tz_neq_r c4041_ (show (6 : Int32).toInt = 6 by decide)
      have z7_ := tz_neq_r c4042_ (show (7 : Int32).toInt = 7 by decide)
      have z8_ := tz_neq_r c4043_ (show (8 : Int32).toInt = 8 by decide)
      have z9_ := tz_neq_r c4044_ (show (9 : Int32).toInt = 9 by decide)
      have z10_ := tz_neq_r c4045_ (show (10 : Int32).toInt = 10 by decide)
      have z11_ := tz_neq_r c4046_ (show (11 : Int32).toInt = 11 by decide)
      have z12_ := tz_neq_r c4047_ (show (12 : Int32).toInt = 12 by decide)
      have z13_ := tz_neq_r c4048_ (show (13 : Int32).toInt = 13 by decide)
      have z14_ := tz_lt_r c4049_ (show (14 : Int32).toInt = 14 by decide)
      have z15_ := tz_eq_r c4943_ (show (7 : Int32).toInt = 7 by decide)
      omega
    · skip
      exfalso
      have z0_ := tz_neq_r c4035_ (show (0 : Int32).toInt = 0 by decide)
      have z1_ := tz_neq_r c4036_ (show (1 : Int32).toInt = 1 by decide)
      have z2_ := tz_neq_r c4037_ (show (2 : Int32).toInt = 2 by decide)
      have z3_ := tz_neq_r c4038_ (show (3 : Int32).toInt = 3 by decide)
      have z4_ := tz_neq_r c4039_ (show (4 : Int32).toInt = 4 by decide)
      have z5_ := tz_neq_r c4040_ (show (5 : Int32).toInt = 5 by decide)
      have z6_ := tz_neq_r c4041_ (show (6 : Int32).toInt = 6 by decide)
      have z7_ := tz_neq_r c4042_ (show (7 : Int32).toInt = 7 by decide)
      have z8_ := tz_neq_r c4043_ (show (8 : Int32).toInt = 8 by decide)
      have z9_ := tz_neq_r c4044_ (show (9 : Int32).toInt = 9 by decide)
      have z10_ := tz_neq_r c4045_ (show (10 : Int32).toInt = 10 by decide)
      have z11_ := tz_neq_r c4046_ (show (11 : Int32).toInt = 11 by decide)
      have z12_ := tz_neq_r c4047_ (show (12 : Int32).toInt = 12 by decide)
      have z13_ := tz_neq_r c4048_ (show (13 : Int32).toInt = 13 by decide)
      have z14_ := tz_lt_r c4049_ (show (14 : Int32).toInt = 14 by decide)
      have z15_ := tz_eq_r c4944_ (show (8 : Int32).toInt = 8 by decide)
      omega
    · skip
      exfalso
      have z0_ := tz_neq_r c4035_ (show (0 : Int32).toInt = 0 by decide)
      have z1_ := tz_neq_r c4036_ (show (1 : Int32).toInt = 1 by decide)
      have z2_ := tz_neq_r c4037_ (show (2 : Int32).toInt = 2 by decide)
      have z3_ := tz_neq_r c4038_ (show (3 : Int32).toInt = 3 by decide)
      have z4_ := tz_neq_r c4039_ (show (4 : Int32).toInt = 4 by decide)
      have z5_ := tz_neq_r c4040_ (show (5 : Int32).toInt = 5 by decide)
      have z6_ := tz_neq_r c4041_ (show (6 : Int32).toInt = 6 by decide)
      have z7_ := tz_neq_r c4042_ (show (7 : Int32).toInt = 7 by decide)
      have z8_ := tz_neq_r c4043_ (show (8 : Int32).toInt = 8 by decide)
      have z9_ := tz_neq_r c4044_ (show (9 : Int32).toInt = 9 by decide)
      have z10_ := tz_neq_r c4045_ (show (10 : Int32).toInt = 10 by decide)
      have z11_ := tz_neq_r c4046_ (show (11 : Int32).toInt = 11 by decide)
      have z12_ := tz_neq_r c4047_ (show (12 : Int32).toInt = 12 by decide)
      have z13_ := tz_neq_r c4048_ (show (13 : Int32).toInt = 13 by decide)
      have z14_ := tz_lt_r c4049_ (show (14 : Int32).toInt = 14 by decide)
      have z15_ := tz_eq_r c4945_ (show (9 : Int32).toInt = 9 by decide)
      omega
    · skip
      exfalso
      have z0_ := tz_neq_r c4035_ (show (0 : Int32).toInt = 0 by decide)
      have z1_ := tz_neq_r c4036_ (show (1 : Int32).toInt = 1 by decide)
      have z2_ := tz_neq_r c4037_ (show (2 : Int32).toInt = 2 by decide)
      have z3_ := tz_neq_r c4038_ (show (3 : Int32).toInt = 3 by decide)
      have z4_ := tz_neq_r c4039_ (show (4 : Int32).toInt = 4 by decide)
      have z5_ := tz_neq_r c4040_ (show (5 : Int32).toInt = 5 by decide)
      have z6_ := tz_neq_r c4041_ (show (6 : Int32).toInt = 6 by decide)
      have z7_ := tz_neq_r c4042_ (show (7 : Int32).toInt = 7 by decide)
      have z8_ := tz_neq_r c4043_ (show (8 : Int32).toInt = 8 by decide)
      have z9_ := tz_neq_r c4044_ (show (9 : Int32).toInt = 9 by decide)
      have z10_ := tz_neq_r c4045_ (show (10 : Int32).toInt = 10 by decide)
      have z11_ := tz_neq_r c4046_ (show (11 : Int32).toInt = 11 by decide)
      have z12_ := tz_neq_r c4047_ (show (12 : Int32).toInt = 12 by decide)
      have z13_ := tz_neq_r c4048_ (show (13 : Int32).toInt = 13 by decide)
      have z14_ := tz_lt_r c4049_ (show (14 : Int32).toInt = 14 by decide)
      have z15_ := tz_eq_r c4946_ (show (10 : Int32).toInt = 10 by decide)
      omega
    · skip
      exfalso
      have z0_ := tz_neq_r c4035_ (show (0 : Int32).toInt = 0 by decide)
      have z1_ := tz_neq_r c4036_ (show (1 : Int32).toInt = 1 by decide)
      have z2_ := tz_neq_r c4037_ (show (2 : Int32).toInt = 2 by decide)
      have z3_ := tz_neq_r c4038_ (show (3 : Int32).toInt = 3 by decide)
      have z4_ := tz_neq_r c4039_ (show (4 : Int32).toInt = 4 by decide)
      have z5_ := tz_neq_r c4040_ (show (5 : Int32).toInt = 5 by decide)
      have z6_ := tz_neq_r c4041_ (show (6 : Int32).toInt = 6 by decide)
      have z7_ := tz_neq_r c4042_ (show (7 : Int32).toInt = 7 by decide)
      have z8_ := tz_neq_r c4043_ (show (8 : Int32).toInt = 8 by decide)
      have z9_ := tz_neq_r c4044_ (show (9 : Int32).toInt = 9 by decide)
      have z10_ := tz_neq_r c4045_ (show (10 : Int32).toInt = 10 by decide)
      have z11_ := tz_neq_r c4046_ (show (11 : Int32).toInt = 11 by decide)
      have z12_ := tz_neq_r c4047_ (show (12 : Int32).toInt = 12 by decide)
      have z13_ := tz_neq_r c4048_ (show (13 : Int32).toInt = 13 by decide)
      have z14_ := tz_lt_r c4049_ (show (14 : Int32).toInt = 14 by decide)
      have z15_ := tz_eq_r c4947_ (show (11 : Int32).toInt = 11 by decide)
      omega
    · skip
      exfalso
      have z0_ := tz_neq_r c4035_ (show (0 : Int32).toInt = 0 by decide)
      have z1_ := tz_neq_r c4036_ (show (1 : Int32).toInt = 1 by decide)
      have z2_ := tz_neq_r c4037_ (show (2 : Int32).toInt = 2 by decide)
      have z3_ := tz_neq_r c4038_ (show (3 : Int32).toInt = 3 by decide)
      have z4_ := tz_neq_r c4039_ (show (4 : Int32).toInt = 4 by decide)
      have z5_ := tz_neq_r c4040_ (show (5 : Int32).toInt = 5 by decide)
      have z6_ := tz_neq_r c4041_ (show (6 : Int32).toInt = 6 by decide)
      have z7_ := tz_neq_r c4042_ (show (7 : Int32).toInt = 7 by decide)
      have z8_ := tz_neq_r c4043_ (show (8 : Int32).toInt = 8 by decide)
      have z9_ := tz_neq_r c4044_ (show (9 : Int32).toInt = 9 by decide)
      have z10_ := tz_neq_r c4045_ (show (10 : Int32).toInt = 10 by decide)
      have z11_ := tz_neq_r c4046_ (show (11 : Int32).toInt = 11 by decide)
      have z12_ := tz_neq_r c4047_ (show (12 : Int32).toInt = 12 by decide)
      have z13_ := tz_neq_r c4048_ (show (13 : Int32).toInt = 13 by decide)
      have z14_ := tz_lt_r c4049_ (show (14 : Int32).toInt = 14 by decide)
      have z15_ := tz_eq_r c4948_ (show (12 : Int32).toInt = 12 by decide)
      omega
    · skip
      exfalso
      have z0_ := tz_neq_r c4035_ (show (0 : Int32).toInt = 0 by decide)
      have z1_ := tz_neq_r c4036_ (show (1 : Int32).toInt = 1 by decide)
      have z2_ := tz_neq_r c4037_ (show (2 : Int32).toInt = 2 by decide)
      have z3_ := tz_neq_r c4038_ (show (3 : Int32).toInt = 3 by decide)
      have z4_ := tz_neq_r c4039_ (show (4 : Int32).toInt = 4 by decide)
      have z5_ := tz_neq_r c4040_ (show (5 : Int32).toInt = 5 by decide)
      have z6_ := tz_neq_r c4041_ (show (6 : Int32).toInt = 6 by decide)
      have z7_ := tz_neq_r c4042_ (show (7 : Int32).toInt = 7 by decide)
      have z8_ := tz_neq_r c4043_ (show (8 : Int32).toInt = 8 by decide)
      have z9_ := tz_neq_r c4044_ (show (9 : Int32).toInt = 9 by decide)
      have z10_ := tz_neq_r c4045_ (show (10 : Int32).toInt = 10 by decide)
      have z11_ := tz_neq_r c4046_ (show (11 : Int32).toInt = 11 by decide)
      have z12_ := tz_neq_r c4047_ (show (12 : Int32).toInt = 12 by decide)
      have z13_ := tz_neq_r c4048_ (show (13 : Int32).toInt = 13 by decide)
      have z14_ := tz_lt_r c4049_ (show (14 : Int32).toInt = 14 by decide)
      have z15_ := tz_eq_r c4949_ (show (13 : Int32).toInt = 13 by decide)
      omega
    · skip
      refine lv_icmp_eq (tgt := 983) hx hb dL_law_965 (by decide) (fun _ => ?_) (fun c9_ => absurd (by decide) c9_)
      refine lv_iinc (v := 6) (lv' := [(3, .int 6), (2, .ref (b 0)), (1, .ref (a 0)), (0, .ref sc)]) hx hb dL_law_983 hl (k := 0) rfl (by decide) (by decide) rfl (fun ls hl => ?_)
      refine lv_goto (tgt := 18) hx hb dL_law_986 (by decide) ?_
      refine lv_iload_n hx hb dL_law_18 rfl (lv_at hl 0 rfl) ?_
      refine lv_aload_n hx hb dL_law_19 rfl (lv_at hl 3 rfl) ?_
      refine va_slen hx hb hX hbl hbA hS dL_law_20 ?_
      refine tk_i 6 (by decide) ?_
      refine lv_bipush (v := 6) hx hb dL_law_21 (by decide) ?_
      refine lv_isub hx hb dL_law_23 ?_
      refine tk_i 0 (by decide) ?_
      refine lv_icmp_gt (tgt := 989) hx hb dL_law_24 (by decide) (fun _ => ?_) (fun c9_ => absurd (by decide) c9_)
      refine lv_iconst (v := 1) hx hb dL_law_989 (by decide) ?_
      refine va_forget (fun q hq => by have h := hS.2.2 q hq; rw [hAe] at h; exact h) ?_
      refine W.widen (k := 600000) (n := 7302249) (Nat.le_of_ble_eq_true rfl) (Nat.le_of_ble_eq_true rfl) ?_
      exact lw_ret hx hb hr hlocks dL_law_990
    · skip
      exfalso
      have z0_ := tz_neq_r c4035_ (show (0 : Int32).toInt = 0 by decide)
      have z1_ := tz_neq_r c4036_ (show (1 : Int32).toInt = 1 by decide)
      have z2_ := tz_neq_r c4037_ (show (2 : Int32).toInt = 2 by decide)
      have z3_ := tz_neq_r c4038_ (show (3 : Int32).toInt = 3 by decide)
      have z4_ := tz_neq_r c4039_ (show (4 : Int32).toInt = 4 by decide)
      have z5_ := tz_neq_r c4040_ (show (5 : Int32).toInt = 5 by decide)
      have z6_ := tz_neq_r c4041_ (show (6 : Int32).toInt = 6 by decide)
      have z7_ := tz_neq_r c4042_ (show (7 : Int32).toInt = 7 by decide)
      have z8_ := tz_neq_r c4043_ (show (8 : Int32).toInt = 8 by decide)
      have z9_ := tz_neq_r c4044_ (show (9 : Int32).toInt = 9 by decide)
      have z10_ := tz_neq_r c4045_ (show (10 : Int32).toInt = 10 by decide)
      have z11_ := tz_neq_r c4046_ (show (11 : Int32).toInt = 11 by decide)
      have z12_ := tz_neq_r c4047_ (show (12 : Int32).toInt = 12 by decide)
      have z13_ := tz_neq_r c4048_ (show (13 : Int32).toInt = 13 by decide)
      have z14_ := tz_lt_r c4049_ (show (14 : Int32).toInt = 14 by decide)
      have z15_ := tz_nlt_r c4979_ (show (14 : Int32).toInt = 14 by decide)
      omega
    · skip
      exfalso
      have z0_ := tz_neq_r c4035_ (show (0 : Int32).toInt = 0 by decide)
      have z1_ := tz_neq_r c4036_ (show (1 : Int32).toInt = 1 by decide)
      have z2_ := tz_neq_r c4037_ (show (2 : Int32).toInt = 2 by decide)
      have z3_ := tz_neq_r c4038_ (show (3 : Int32).toInt = 3 by decide)
      have z4_ := tz_neq_r c4039_ (show (4 : Int32).toInt = 4 by decide)
      have z5_ := tz_neq_r c4040_ (show (5 : Int32).toInt = 5 by decide)
      have z6_ := tz_neq_r c4041_ (show (6 : Int32).toInt = 6 by decide)
      have z7_ := tz_neq_r c4042_ (show (7 : Int32).toInt = 7 by decide)
      have z8_ := tz_neq_r c4043_ (show (8 : Int32).toInt = 8 by decide)
      have z9_ := tz_neq_r c4044_ (show (9 : Int32).toInt = 9 by decide)
      have z10_ := tz_neq_r c4045_ (show (10 : Int32).toInt = 10 by decide)
      have z11_ := tz_neq_r c4046_ (show (11 : Int32).toInt = 11 by decide)
      have z12_ := tz_neq_r c4047_ (show (12 : Int32).toInt = 12 by decide)
      have z13_ := tz_neq_r c4048_ (show (13 : Int32).toInt = 13 by decide)
      have z14_ := tz_lt_r c4049_ (show (14 : Int32).toInt = 14 by decide)
      have z15_ := tz_nlt_r c4995_ (show (14 : Int32).toInt = 14 by decide)
      omega
  · skip
    refine lv_aload_n hx hb dL_law_956 rfl (lv_at hl 1 rfl) ?_
    refine lv_aload_n hx hb dL_law_957 rfl (lv_at hl 3 rfl) ?_
    refine lv_iload_n hx hb dL_law_958 rfl (lv_at hl 0 rfl) ?_
    refine lv_iconst (v := 1) hx hb dL_law_959 (by decide) ?_
    refine lv_iadd hx hb dL_law_960 ?_
    refine tk_i 1 (by decide) ?_
    refine va_sld hx hb hX hbl hbA hS (show ¬ ((1 : Int32) < 0 ∨ 6 ≤ Int32.toNatClampNeg 1) by decide) dL_law_961 ?_
    refine tk_i x1 ex1 ?_
    have hPc : va_P (dC, dI) vwCl (mw b cy) _ := hP.sub [56, 57, 58, 59, 60, 61, 62, 63] rfl
    have hDc := hD.sub (ws' := mw b cy) [56, 57, 58, 59, 60, 61, 62, 63] (by decide) rfl
    have hFc := va_free (wc := mw b cy) hD hS hA [56, 57, 58, 59, 60, 61, 62, 63] rfl
    refine va_calli (va_runV (As := [.int x1]) (rest := [.int (-1)]) ⟨hx, hb, hml, hown, hts⟩ (c_X12_count l dC dI cy b _ x1) (cwV 1 hts g_L_law_X12_count_130 rfl rfl rfl (by decide +kernel) ⟨Nat.le_of_ble_eq_true rfl, Nat.le_of_ble_eq_true rfl⟩) (pv_ps hC hPc hDc (ci := 12) (q0 := 0) rfl rfl) rfl rfl hl.1 rfl (lv_room (Nat.le_of_ble_eq_true rfl)) dL_law_962 ⟨Nat.le_of_ble_eq_true rfl, Nat.le_of_ble_eq_true rfl⟩) hS (fun q _ h => hFc q h) hFc (fun r_ u t_ H1 locs ht hvm hw hB hz1 hk1 hS => ?_)
    obtain ⟨hP, hD⟩ := va_join (wr := []) (w1 := []) hP hD [56, 57, 58, 59, 60, 61, 62, 63] [] rfl rfl (by decide) (by decide) hk1 hFc va_P0 va_D0
    generalize H1 = H at hP hS ⊢
    have hP : va_P (dC, dI) vwCl ([]) H := hP
    have hD : va_D A ([]) := hD
    rcases hw with ⟨c4997_, rfl⟩ | ⟨c4998_, rfl⟩ | ⟨c4999_, rfl⟩ | ⟨c5000_, rfl⟩ | ⟨c5001_, rfl⟩ | ⟨c5002_, rfl⟩ | ⟨c5003_, rfl⟩ | ⟨c5004_, rfl⟩ | ⟨c5005_, rfl⟩ | ⟨c5006_, rfl⟩ | ⟨c5007_, rfl⟩ | ⟨c5008_, rfl⟩ | ⟨c5009_, rfl⟩ | ⟨c5010_, rfl⟩ | ⟨c5011_, c5012_, c5013_, c5014_, c5015_, c5016_, c5017_, c5018_, c5019_, c5020_, c5021_, c5022_, c5023_, c5024_, c5025_, rfl⟩ | ⟨c5026_, c5027_, c5028_, c5029_, c5030_, c5031_, c5032_, c5033_, c5034_, c5035_, c5036_, c5037_, c5038_, c5039_, c5040_, c5041_, rfl⟩ | ⟨c5042_, c5043_, c5044_, c5045_, c5046_, c5047_, c5048_, c5049_, c5050_, c5051_, c5052_, c5053_, c5054_, c5055_, c5056_, c5057_, rfl⟩
    · skip
      exfalso
      have z0_ := tz_neq_r c4050_ (show (0 : Int32).toInt = 0 by decide)
      have z1_ := tz_neq_r c4051_ (show (1 : Int32).toInt = 1 by decide)
      have z2_ := tz_neq_r c4052_ (show (2 : Int32).toInt = 2 by decide)
      have z3_ := tz_neq_r c4053_ (show (3 : Int32).toInt = 3 by decide)
      have z4_ := tz_neq_r c4054_ (show (4 : Int32).toInt = 4 by decide)
      have z5_ := tz_neq_r c4055_ (show (5 : Int32).toInt = 5 by decide)
      have z6_ := tz_neq_r c4056_ (show (6 : Int32).toInt = 6 by decide)
      have z7_ := tz_neq_r c4057_ (show (7 : Int32).toInt = 7 by decide)
      have z8_ := tz_neq_r c4058_ (show (8 : Int32).toInt = 8 by decide)
      have z9_ := tz_neq_r c4059_ (show (9 : Int32).toInt = 9 by decide)
      have z10_ := tz_neq_r c4060_ (show (10 : Int32).toInt = 10 by decide)
      have z11_ := tz_neq_r c4061_ (show (11 : Int32).toInt = 11 by decide)
      have z12_ := tz_neq_r c4062_ (show (12 : Int32).toInt = 12 by decide)
      have z13_ := tz_neq_r c4063_ (show (13 : Int32).toInt = 13 by decide)
      have z14_ := tz_nlt_r c4064_ (show (14 : Int32).toInt = 14 by decide)
      have z15_ := tz_le_l c4065_ (show (21 : Int32).toInt = 21 by decide)
      have z16_ := tz_eq_r c4997_ (show (0 : Int32).toInt = 0 by decide)
      omega
    · skip
      exfalso
      have z0_ := tz_neq_r c4050_ (show (0 : Int32).toInt = 0 by decide)
      have z1_ := tz_neq_r c4051_ (show (1 : Int32).toInt = 1 by decide)
      have z2_ := tz_neq_r c4052_ (show (2 : Int32).toInt = 2 by decide)
      have z3_ := tz_neq_r c4053_ (show (3 : Int32).toInt = 3 by decide)
      have z4_ := tz_neq_r c4054_ (show (4 : Int32).toInt = 4 by decide)
      have z5_ := tz_neq_r c4055_ (show (5 : Int32).toInt = 5 by decide)
      have z6_ := tz_neq_r c4056_ (show (6 : Int32).toInt = 6 by decide)
      have z7_ := tz_neq_r c4057_ (show (7 : Int32).toInt = 7 by decide)
      have z8_ := tz_neq_r c4058_ (show (8 : Int32).toInt = 8 by decide)
      have z9_ := tz_neq_r c4059_ (show (9 : Int32).toInt = 9 by decide)
      have z10_ := tz_neq_r c4060_ (show (10 : Int32).toInt = 10 by decide)
      have z11_ := tz_neq_r c4061_ (show (11 : Int32).toInt = 11 by decide)
      have z12_ := tz_neq_r c4062_ (show (12 : Int32).toInt = 12 by decide)
      have z13_ := tz_neq_r c4063_ (show (13 : Int32).toInt = 13 by decide)
      have z14_ := tz_nlt_r c4064_ (show (14 : Int32).toInt = 14 by decide)
      have z15_ := tz_le_l c4065_ (show (21 : Int32).toInt = 21 by decide)
      have z16_ := tz_eq_r c4998_ (show (1 : Int32).toInt = 1 by decide)
      omega
    · skip
      exfalso
      have z0_ := tz_neq_r c4050_ (show (0 : Int32).toInt = 0 by decide)
      have z1_ := tz_neq_r c4051_ (show (1 : Int32).toInt = 1 by decide)
      have z2_ := tz_neq_r c4052_ (show (2 : Int32).toInt = 2 by decide)
      have z3_ := tz_neq_r c4053_ (show (3 : Int32).toInt = 3 by decide)
      have z4_ := tz_neq_r c4054_ (show (4 : Int32).toInt = 4 by decide)
      have z5_ := tz_neq_r c4055_ (show (5 : Int32).toInt = 5 by decide)
      have z6_ := tz_neq_r c4056_ (show (6 : Int32).toInt = 6 by decide)
      have z7_ := tz_neq_r c4057_ (show (7 : Int32).toInt = 7 by decide)
      have z8_ := tz_neq_r c4058_ (show (8 : Int32).toInt = 8 by decide)
      have z9_ := tz_neq_r c4059_ (show (9 : Int32).toInt = 9 by decide)
      have z10_ := tz_neq_r c4060_ (show (10 : Int32).toInt = 10 by decide)
      have z11_ := tz_neq_r c4061_ (show (11 : Int32).toInt = 11 by decide)
      have z12_ := tz_neq_r c4062_ (show (12 : Int32).toInt = 12 by decide)
      have z13_ := tz_neq_r c4063_ (show (13 : Int32).toInt = 13 by decide)
      have z14_ := tz_nlt_r c4064_ (show (14 : Int32).toInt = 14 by decide)
      have z15_ := tz_le_l c4065_ (show (21 : Int32).toInt = 21 by decide)
      have z16_ := tz_eq_r c4999_ (show (2 : Int32).toInt = 2 by decide)
      omega
    · skip
      exfalso
      have z0_ := tz_neq_r c4050_ (show (0 : Int32).toInt = 0 by decide)
      have z1_ := tz_neq_r c4051_ (show (1 : Int32).toInt = 1 by decide)
      have z2_ := tz_neq_r c4052_ (show (2 : Int32).toInt = 2 by decide)
      have z3_ := tz_neq_r c4053_ (show (3 : Int32).toInt = 3 by decide)
      have z4_ := tz_neq_r c4054_ (show (4 : Int32).toInt = 4 by decide)
      have z5_ := tz_neq_r c4055_ (show (5 : Int32).toInt = 5 by decide)
      have z6_ := tz_neq_r c4056_ (show (6 : Int32).toInt = 6 by decide)
      have z7_ := tz_neq_r c4057_ (show (7 : Int32).toInt = 7 by decide)
      have z8_ := tz_neq_r c4058_ (show (8 : Int32).toInt = 8 by decide)
      have z9_ := tz_neq_r c4059_ (show (9 : Int32).toInt = 9 by decide)
      have z10_ := tz_neq_r c4060_ (show (10 : Int32).toInt = 10 by decide)
      have z11_ := tz_neq_r c4061_ (show (11 : Int32).toInt = 11 by decide)
      have z12_ := tz_neq_r c4062_ (show (12 : Int32).toInt = 12 by decide)
      have z13_ := tz_neq_r c4063_ (show (13 : Int32).toInt = 13 by decide)
      have z14_ := tz_nlt_r c4064_ (show (14 : Int32).toInt = 14 by decide)
      have z15_ := tz_le_l c4065_ (show (21 : Int32).toInt = 21 by decide)
      have z16_ := tz_eq_r c5000_ (show (3 : Int32).toInt = 3 by decide)
      omega
    · skip
      exfalso
      have z0_ := tz_neq_r c4050_ (show (0 : Int32).toInt = 0 by decide)
      have z1_ := tz_neq_r c4051_ (show (1 : Int32).toInt = 1 by decide)
      have z2_ := tz_neq_r c4052_ (show (2 : Int32).toInt = 2 by decide)
      have z3_ := tz_neq_r c4053_ (show (3 : Int32).toInt = 3 by decide)
      have z4_ := tz_neq_r c4054_ (show (4 : Int32).toInt = 4 by decide)
      have z5_ := tz_neq_r c4055_ (show (5 : Int32).toInt = 5 by decide)
      have z6_ := tz_neq_r c4056_ (show (6 : Int32).toInt = 6 by decide)
      have z7_ := tz_neq_r c4057_ (show (7 : Int32).toInt = 7 by decide)
      have z8_ := tz_neq_r c4058_ (show (8 : Int32).toInt = 8 by decide)
      have z9_ := tz_neq_r c4059_ (show (9 : Int32).toInt = 9 by decide)
      have z10_ := tz_neq_r c4060_ (show (10 : Int32).toInt = 10 by decide)
      have z11_ := tz_neq_r c4061_ (show (11 : Int32).toInt = 11 by decide)
      have z12_ := tz_neq_r c4062_ (show (12 : Int32).toInt = 12 by decide)
      have z13_ := tz_neq_r c4063_ (show (13 : Int32).toInt = 13 by decide)
      have z14_ := tz_nlt_r c4064_ (show (14 : Int32).toInt = 14 by decide)
      have z15_ := tz_le_l c4065_ (show (21 : Int32).toInt = 21 by decide)
      have z16_ := tz_eq_r c5001_ (show (4 : Int32).toInt = 4 by decide)
      omega
    · skip
      exfalso
      have z0_ := tz_neq_r c4050_ (show (0 : Int32).toInt = 0 by decide)
      have z1_ := tz_neq_r c4051_ (show (1 : Int32).toInt = 1 by decide)
      have z2_ := tz_neq_r c4052_ (show (2 : Int32).toInt = 2 by decide)
      have z3_ := tz_neq_r c4053_ (show (3 : Int32).toInt = 3 by decide)
      have z4_ := tz_neq_r c4054_ (show (4 : Int32).toInt = 4 by decide)
      have z5_ := tz_neq_r c4055_ (show (5 : Int32).toInt = 5 by decide)
      have z6_ := tz_neq_r c4056_ (show (6 : Int32).toInt = 6 by decide)
      have z7_ := tz_neq_r c4057_ (show (7 : Int32).toInt = 7 by decide)
      have z8_ := tz_neq_r c4058_ (show (8 : Int32).toInt = 8 by decide)
      have z9_ := tz_neq_r c4059_ (show (9 : Int32).toInt = 9 by decide)
      have z10_ := tz_neq_r c4060_ (show (10 : Int32).toInt = 10 by decide)
      have z11_ := tz_neq_r c4061_ (show (11 : Int32).toInt = 11 by decide)
      have z12_ := tz_neq_r c4062_ (show (12 : Int32).toInt = 12 by decide)
      have z13_ := tz_neq_r c4063_ (show (13 : Int32).toInt = 13 by decide)
      have z14_ := tz_nlt_r c4064_ (show (14 : Int32).toInt = 14 by decide)
      have z15_ := tz_le_l c4065_ (show (21 : Int32).toInt = 21 by decide)
      have z16_ := tz_eq_r c5002_ (show (5 : Int32).toInt = 5 by decide)
      omega
    · skip
      exfalso
      have z0_ := tz_neq_r c4050_ (show (0 : Int32).toInt = 0 by decide)
      have z1_ := tz_neq_r c4051_ (show (1 : Int32).toInt = 1 by decide)
      have z2_ := tz_neq_r c4052_ (show (2 : Int32).toInt = 2 by decide)
      have z3_ := tz_neq_r c4053_ (show (3 : Int32).toInt = 3 by decide)
      have z4_ := tz_neq_r c4054_ (show (4 : Int32).toInt = 4 by decide)
      have z5_ := tz_neq_r c4055_ (show (5 : Int32).toInt = 5 by decide)
      have z6_ := tz_neq_r c4056_ (show (6 : Int32).toInt = 6 by decide)
      have z7_ := tz_neq_r c4057_ (show (7 : Int32).toInt = 7 by decide)
      have z8_ := tz_neq_r c4058_ (show (8 : Int32).toInt = 8 by decide)
      have z9_ := tz_neq_r c4059_ (show (9 : Int32).toInt = 9 by decide)
      have z10_ := tz_neq_r c4060_ (show (10 : Int32).toInt = 10 by decide)
      have z11_ := tz_neq_r c4061_ (show (11 : Int32).toInt = 11 by decide)
      have z12_ := tz_neq_r c4062_ (show (12 : Int32).toInt = 12 by decide)
      have z13_ := tz_neq_r c4063_ (show (13 : Int32).toInt = 13 by decide)
      have z14_ := tz_nlt_r c4064_ (show (14 : Int32).toInt = 14 by decide)
      have z15_ := tz_le_l c4065_ (show (21 : Int32).toInt = 21 by decide)
      have z16_ := tz_eq_r c5003_ (show (6 : Int32).toInt = 6 by decide)
      omega
    · skip
      exfalso
      have z0_ := tz_neq_r c4050_ (show (0 : Int32).toInt = 0 by decide)
      have z1_ := tz_neq_r c4051_ (show (1 : Int32).toInt = 1 by decide)
      have z2_ := tz_neq_r c4052_ (show (2 : Int32).toInt = 2 by decide)
      have z3_ := tz_neq_r c4053_ (show (3 : Int32).toInt = 3 by decide)
      have z4_ := tz_neq_r c4054_ (show (4 : Int32).toInt = 4 by decide)
      have z5_ := tz_neq_r c4055_ (show (5 : Int32).toInt = 5 by decide)
      have z6_ := tz_neq_r c4056_ (show (6 : Int32).toInt = 6 by decide)
      have z7_ := tz_neq_r c4057_ (show (7 : Int32).toInt = 7 by decide)
      have z8_ := tz_neq_r c4058_ (show (8 : Int32).toInt = 8 by decide)
      have z9_ := tz_neq_r c4059_ (show (9 : Int32).toInt = 9 by decide)
      have z10_ := tz_neq_r c4060_ (show (10 : Int32).toInt = 10 by decide)
      have z11_ := tz_neq_r c4061_ (show (11 : Int32).toInt = 11 by decide)
      have z12_ := tz_neq_r c4062_ (show (12 : Int32).toInt = 12 by decide)
      have z13_ := tz_neq_r c4063_ (show (13 : Int32).toInt = 13 by decide)
      have z14_ := tz_nlt_r c4064_ (show (14 : Int32).toInt = 14 by decide)
      have z15_ := tz_le_l c4065_ (show (21 : Int32).toInt = 21 by decide)
      have z16_ := tz_eq_r c5004_ (show (7 : Int32).toInt = 7 by decide)
      omega
    · skip
      exfalso
      have z0_ := tz_neq_r c4050_ (show (0 : Int32).toInt = 0 by decide)
      have z1_ := tz_neq_r c4051_ (show (1 : Int32).toInt = 1 by decide)
      have z2_ := tz_neq_r c4052_ (show (2 : Int32).toInt = 2 by decide)
      have z3_ := tz_neq_r c4053_ (show (3 : Int32).toInt = 3 by decide)
      have z4_ := tz_neq_r c4054_ (show (4 : Int32).toInt = 4 by decide)
      have z5_ := tz_neq_r c4055_ (show (5 : Int32).toInt = 5 by decide)
      have z6_ := tz_neq_r c4056_ (show (6 : Int32).toInt = 6 by decide)
      have z7_ := tz_neq_r c4057_ (show (7 : Int32).toInt = 7 by decide)
      have z8_ := tz_neq_r c4058_ (show (8 : Int32).toInt = 8 by decide)
      have z9_ := tz_neq_r c4059_ (show (9 : Int32).toInt = 9 by decide)
      have z10_ := tz_neq_r c4060_ (show (10 : Int32).toInt = 10 by decide)
      have z11_ := tz_neq_r c4061_ (show (11 : Int32).toInt = 11 by decide)
      have z12_ := tz_neq_r c4062_ (show (12 : Int32).toInt = 12 by decide)
      have z13_ := tz_neq_r c4063_ (show (13 : Int32).toInt = 13 by decide)
      have z14_ := tz_nlt_r c4064_ (show (14 : Int32).toInt = 14 by decide)
      have z15_ := tz_le_l c4065_ (show (21 : Int32).toInt = 21 by decide)
      have z16_ := tz_eq_r c5005_ (show (8 : Int32).toInt = 8 by decide)
      omega
    · skip
      exfalso
      have z0_ := tz_neq_r c4050_ (show (0 : Int32).toInt = 0 by decide)
      have z1_ := tz_neq_r c4051_ (show (1 : Int32).toInt = 1 by decide)
      have z2_ := tz_neq_r c4052_ (show (2 : Int32).toInt = 2 by decide)
      have z3_ := tz_neq_r c4053_ (show (3 : Int32).toInt = 3 by decide)
      have z4_ := tz_neq_r c4054_ (show (4 : Int32).toInt = 4 by decide)
      have z5_ := tz_neq_r c4055_ (show (5 : Int32).toInt = 5 by decide)
      have z6_ := tz_neq_r c4056_ (show (6 : Int32).toInt = 6 by decide)
      have z7_ := tz_neq_r c4057_ (show (7 : Int32).toInt = 7 by decide)
      have z8_ := tz_neq_r c4058_ (show (8 : Int32).toInt = 8 by decide)
      have z9_ := tz_neq_r c4059_ (show (9 : Int32).toInt = 9 by decide)
      have z10_ := tz_neq_r c4060_ (show (10 : Int32).toInt = 10 by decide)
      have z11_ := tz_neq_r c4061_ (show (11 : Int32).toInt = 11 by decide)
      have z12_ := tz_neq_r c4062_ (show (12 : Int32).toInt = 12 by decide)
      have z13_ := tz_neq_r c4063_ (show (13 : Int32).toInt = 13 by decide)
      have z14_ := tz_nlt_r c4064_ (show (14 : Int32).toInt = 14 by decide)
      have z15_ := tz_le_l c4065_ (show (21 : Int32).toInt = 21 by decide)
      have z16_ := tz_eq_r c5006_ (show (9 : Int32).toInt = 9 by decide)
      omega
    · skip
      exfalso
      have z0_ := tz_neq_r c4050_ (show (0 : Int32).toInt = 0 by decide)
      have z1_ := tz_neq_r c4051_ (show (1 : Int32).toInt = 1 by decide)
      have z2_ := tz_neq_r c4052_ (show (2 : Int32).toInt = 2 by decide)
      have z3_ := tz_neq_r c4053_ (show (3 : Int32).toInt = 3 by decide)
      have z4_ := tz_neq_r c4054_ (show (4 : Int32).toInt = 4 by decide)
      have z5_ := tz_neq_r c4055_ (show (5 : Int32).toInt = 5 by decide)
      have z6_ := tz_neq_r c4056_ (show (6 : Int32).toInt = 6 by decide)
      have z7_ := tz_neq_r c4057_ (show (7 : Int32).toInt = 7 by decide)
      have z8_ := tz_neq_r c4058_ (show (8 : Int32).toInt = 8 by decide)
      have z9_ := tz_neq_r c4059_ (show (9 : Int32).toInt = 9 by decide)
      have z10_ := tz_neq_r c4060_ (show (10 : Int32).toInt = 10 by decide)
      have z11_ := tz_neq_r c4061_ (show (11 : Int32).toInt = 11 by decide)
      have z12_ := tz_neq_r c4062_ (show (12 : Int32).toInt = 12 by decide)
      have z13_ := tz_neq_r c4063_ (show (13 : Int32).toInt = 13 by decide)
      have z14_ := tz_nlt_r c4064_ (show (14 : Int32).toInt = 14 by decide)
      have z15_ := tz_le_l c4065_ (show (21 : Int32).toInt = 21 by decide)
      have z16_ := tz_eq_r c5007_ (show (10 : Int32).toInt = 10 by decide)
      omega
    · skip
      exfalso
      have z0_ := tz_neq_r c4050_ (show (0 : Int32).toInt = 0 by decide)
      have z1_ := tz_neq_r c4051_ (show (1 : Int32).toInt = 1 by decide)
      have z2_ := tz_neq_r c4052_ (show (2 : Int32).toInt = 2 by decide)
      have z3_ := tz_neq_r c4053_ (show (3 : Int32).toInt = 3 by decide)
      have z4_ := tz_neq_r c4054_ (show (4 : Int32).toInt = 4 by decide)
      have z5_ := tz_neq_r c4055_ (show (5 : Int32).toInt = 5 by decide)
      have z6_ := tz_neq_r c4056_ (show (6 : Int32).toInt = 6 by decide)
      have z7_ := tz_neq_r c4057_ (show (7 : Int32).toInt = 7 by decide)
      have z8_ := tz_neq_r c4058_ (show (8 : Int32).toInt = 8 by decide)
      have z9_ := tz_neq_r c4059_ (show (9 : Int32).toInt = 9 by decide)
      have z10_ := tz_neq_r c4060_ (show (10 : Int32).toInt = 10 by decide)
      have z11_ := tz_neq_r c4061_ (show (11 : Int32).toInt = 11 by decide)
      have z12_ := tz_neq_r c4062_ (show (12 : Int32).toInt = 12 by decide)
      have z13_ := tz_neq_r c4063_ (show (13 : Int32).toInt = 13 by decide)
      have z14_ := tz_nlt_r c4064_ (show (14 : Int32).toInt = 14 by decide)
      have z15_ := tz_le_l c4065_ (show (21 : Int32).toInt = 21 by decide)
      have z16_ := tz_eq_r c5008_ (show (11 : Int32).toInt = 11 by decide)
      omega
    · skip
      exfalso
      have z0_ := tz_neq_r c4050_ (show (0 : Int32).toInt = 0 by decide)
      have z1_ := tz_neq_r c4051_ (show (1 : Int32).toInt = 1 by decide)
      have z2_ := tz_neq_r c4052_ (show (2 : Int32).toInt = 2 by decide)
      have z3_ := tz_neq_r c4053_ (show (3 : Int32).toInt = 3 by decide)
      have z4_ := tz_neq_r c4054_ (show (4 : Int32).toInt = 4 by decide)
      have z5_ := tz_neq_r c4055_ (show (5 : Int32).toInt = 5 by decide)
      have z6_ := tz_neq_r c4056_ (show (6 : Int32).toInt = 6 by decide)
      have z7_ := tz_neq_r c4057_ (show (7 : Int32).toInt = 7 by decide)
      have z8_ := tz_neq_r c4058_ (show (8 : Int32).toInt = 8 by decide)
      have z9_ := tz_neq_r c4059_ (show (9 : Int32).toInt = 9 by decide)
      have z10_ := tz_neq_r c4060_ (show (10 : Int32).toInt = 10 by decide)
      have z11_ := tz_neq_r c4061_ (show (11 : Int32).toInt = 11 by decide)
      have z12_ := tz_neq_r c4062_ (show (12 : Int32).toInt = 12 by decide)
      have z13_ := tz_neq_r c4063_ (show (13 : Int32).toInt = 13 by decide)
      have z14_ := tz_nlt_r c4064_ (show (14 : Int32).toInt = 14 by decide)
      have z15_ := tz_le_l c4065_ (show (21 : Int32).toInt = 21 by decide)
      have z16_ := tz_eq_r c5009_ (show (12 : Int32).toInt = 12 by decide)
      omega
    · skip
      exfalso
      have z0_ := tz_neq_r c4050_ (show (0 : Int32).toInt = 0 by decide)
      have z1_ := tz_neq_r c4051_ (show (1 : Int32).toInt = 1 by decide)
      have z2_ := tz_neq_r c4052_ (show (2 : Int32).toInt = 2 by decide)
      have z3_ := tz_neq_r c4053_ (show (3 : Int32).toInt = 3 by decide)
      have z4_ := tz_neq_r c4054_ (show (4 : Int32).toInt = 4 by decide)
      have z5_ := tz_neq_r c4055_ (show (5 : Int32).toInt = 5 by decide)
      have z6_ := tz_neq_r c4056_ (show (6 : Int32).toInt = 6 by decide)
      have z7_ := tz_neq_r c4057_ (show (7 : Int32).toInt = 7 by decide)
      have z8_ := tz_neq_r c4058_ (show (8 : Int32).toInt = 8 by decide)
      have z9_ := tz_neq_r c4059_ (show (9 : Int32).toInt = 9 by decide)
      have z10_ := tz_neq_r c4060_ (show (10 : Int32).toInt = 10 by decide)
      have z11_ := tz_neq_r c4061_ (show (11 : Int32).toInt = 11 by decide)
      have z12_ := tz_neq_r c4062_ (show (12 : Int32).toInt = 12 by decide)
      have z13_ := tz_neq_r c4063_ (show (13 : Int32).toInt = 13 by decide)
      have z14_ := tz_nlt_r c4064_ (show (14 : Int32).toInt = 14 by decide)
      have z15_ := tz_le_l c4065_ (show (21 : Int32).toInt = 21 by decide)
      have z16_ := tz_eq_r c5010_ (show (13 : Int32).toInt = 13 by decide)
      omega
    · skip
      exfalso
      have z0_ := tz_neq_r c4050_ (show (0 : Int32).toInt = 0 by decide)
      have z1_ := tz_neq_r c4051_ (show (1 : Int32).toInt = 1 by decide)
      have z2_ := tz_neq_r c4052_ (show (2 : Int32).toInt = 2 by decide)
      have z3_ := tz_neq_r c4053_ (show (3 : Int32).toInt = 3 by decide)
      have z4_ := tz_neq_r c4054_ (show (4 : Int32).toInt = 4 by decide)
      have z5_ := tz_neq_r c4055_ (show (5 : Int32).toInt = 5 by decide)
      have z6_ := tz_neq_r c4056_ (show (6 : Int32).toInt = 6 by decide)
      have z7_ := tz_neq_r c4057_ (show (7 : Int32).toInt = 7 by decide)
      have z8_ := tz_neq_r c4058_ (show (8 : Int32).toInt = 8 by decide)
      have z9_ := tz_neq_r c4059_ (show (9 : Int32).toInt = 9 by decide)
      have z10_ := tz_neq_r c4060_ (show (10 : Int32).toInt = 10 by decide)
      have z11_ := tz_neq_r c4061_ (show (11 : Int32).toInt = 11 by decide)
      have z12_ := tz_neq_r c4062_ (show (12 : Int32).toInt = 12 by decide)
      have z13_ := tz_neq_r c4063_ (show (13 : Int32).toInt = 13 by decide)
      have z14_ := tz_nlt_r c4064_ (show (14 : Int32).toInt = 14 by decide)
      have z15_ := tz_le_l c4065_ (show (21 : Int32).toInt = 21 by decide)
      have z16_ := tz_lt_r c5025_ (show (14 : Int32).toInt = 14 by decide)
      omega
    · skip
      refine lv_icmp_eq (tgt := 983) hx hb dL_law_965 (by decide) (fun _ => ?_) (fun c9_ => absurd (by decide) c9_)
      refine lv_iinc (v := 6) (lv' := [(3, .int 6), (2, .ref (b 0)), (1, .ref (a 0)), (0, .ref sc)]) hx hb dL_law_983 hl (k := 0) rfl (by decide) (by decide) rfl (fun ls hl => ?_)
      refine lv_goto (tgt := 18) hx hb dL_law_986 (by decide) ?_
      refine lv_iload_n hx hb dL_law_18 rfl (lv_at hl 0 rfl) ?_
      refine lv_aload_n hx hb dL_law_19 rfl (lv_at hl 3 rfl) ?_
      refine va_slen hx hb hX hbl hbA hS dL_law_20 ?_
      refine tk_i 6 (by decide) ?_
      refine lv_bipush (v := 6) hx hb dL_law_21 (by decide) ?_
      refine lv_isub hx hb dL_law_23 ?_
      refine tk_i 0 (by decide) ?_
      refine lv_icmp_gt (tgt := 989) hx hb dL_law_24 (by decide) (fun _ => ?_) (fun c9_ => absurd (by decide) c9_)
      refine lv_iconst (v := 1) hx hb dL_law_989 (by decide) ?_
      refine va_forget (fun q hq => by have h := hS.2.2 q hq; rw [hAe] at h; exact h) ?_
      refine W.widen (k := 600000) (n := 7302249) (Nat.le_of_ble_eq_true rfl) (Nat.le_of_ble_eq_true rfl) ?_
      exact lw_ret hx hb hr hlocks dL_law_990
    · skip
      exfalso
      have z0_ := tz_neq_r c4050_ (show (0 : Int32).toInt = 0 by decide)
      have z1_ := tz_neq_r c4051_ (show (1 : Int32).toInt = 1 by decide)
      have z2_ := tz_neq_r c4052_ (show (2 : Int32).toInt = 2 by decide)
      have z3_ := tz_neq_r c4053_ (show (3 : Int32).toInt = 3 by decide)
      have z4_ := tz_neq_r c4054_ (show (4 : Int32).toInt = 4 by decide)
      have z5_ := tz_neq_r c4055_ (show (5 : Int32).toInt = 5 by decide)
      have z6_ := tz_neq_r c4056_ (show (6 : Int32).toInt = 6 by decide)
      have z7_ := tz_neq_r c4057_ (show (7 : Int32).toInt = 7 by decide)
      have z8_ := tz_neq_r c4058_ (show (8 : Int32).toInt = 8 by decide)
      have z9_ := tz_neq_r c4059_ (show (9 : Int32).toInt = 9 by decide)
      have z10_ := tz_neq_r c4060_ (show (10 : Int32).toInt = 10 by decide)
      have z11_ := tz_neq_r c4061_ (show (11 : Int32).toInt = 11 by decide)
      have z12_ := tz_neq_r c4062_ (show (12 : Int32).toInt = 12 by decide)
      have z13_ := tz_neq_r c4063_ (show (13 : Int32).toInt = 13 by decide)
      have z14_ := tz_nlt_r c4064_ (show (14 : Int32).toInt = 14 by decide)
      have z15_ := tz_le_l c4065_ (show (21 : Int32).toInt = 21 by decide)
      have z16_ := tz_nlt_l c5057_ (show (20 : Int32).toInt = 20 by decide)
      omega
  · skip
    refine lv_aload_n hx hb dL_law_956 rfl (lv_at hl 1 rfl) ?_
    refine lv_aload_n hx hb dL_law_957 rfl (lv_at hl 3 rfl) ?_
    refine lv_iload_n hx hb dL_law_958 rfl (lv_at hl 0 rfl) ?_
    refine lv_iconst (v := 1) hx hb dL_law_959 (by decide) ?_
    refine lv_iadd hx hb dL_law_960 ?_
    refine tk_i 1 (by decide) ?_
    refine va_sld hx hb hX hbl hbA hS (show ¬ ((1 : Int32) < 0 ∨ 6 ≤ Int32.toNatClampNeg 1) by decide) dL_law_961 ?_
    refine tk_i x1 ex1 ?_
    have hPc : va_P (dC, dI) vwCl (mw b cy) _ := hP.sub [56, 57, 58, 59, 60, 61, 62, 63] rfl
    have hDc := hD.sub (ws' := mw b cy) [56, 57, 58, 59, 60, 61, 62, 63] (by decide) rfl
    have hFc := va_free (wc := mw b cy) hD hS hA [56, 57, 58, 59, 60, 61, 62, 63] rfl
    refine va_calli (va_runV (As := [.int x1]) (rest := [.int 0]) ⟨hx, hb, hml, hown, hts⟩ (c_X12_count l dC dI cy b _ x1) (cwV 1 hts g_L_law_X12_count_130 rfl rfl rfl (by decide +kernel) ⟨Nat.le_of_ble_eq_true rfl, Nat.le_of_ble_eq_true rfl⟩) (pv_ps hC hPc hDc (ci := 12) (q0 := 0) rfl rfl) rfl rfl hl.1 rfl (lv_room (Nat.le_of_ble_eq_true rfl)) dL_law_962 ⟨Nat.le_of_ble_eq_true rfl, Nat.le_of_ble_eq_true rfl⟩) hS (fun q _ h => hFc q h) hFc (fun r_ u t_ H1 locs ht hvm hw hB hz1 hk1 hS => ?_)
    obtain ⟨hP, hD⟩ := va_join (wr := []) (w1 := []) hP hD [56, 57, 58, 59, 60, 61, 62, 63] [] rfl rfl (by decide) (by decide) hk1 hFc va_P0 va_D0
    generalize H1 = H at hP hS ⊢
    have hP : va_P (dC, dI) vwCl ([]) H := hP
    have hD : va_D A ([]) := hD
    rcases hw with ⟨c5058_, rfl⟩ | ⟨c5059_, rfl⟩ | ⟨c5060_, rfl⟩ | ⟨c5061_, rfl⟩ | ⟨c5062_, rfl⟩ | ⟨c5063_, rfl⟩ | ⟨c5064_, rfl⟩ | ⟨c5065_, rfl⟩ | ⟨c5066_, rfl⟩ | ⟨c5067_, rfl⟩ | ⟨c5068_, rfl⟩ | ⟨c5069_, rfl⟩ | ⟨c5070_, rfl⟩ | ⟨c5071_, rfl⟩ | ⟨c5072_, c5073_, c5074_, c5075_, c5076_, c5077_, c5078_, c5079_, c5080_, c5081_, c5082_, c5083_, c5084_, c5085_, c5086_, rfl⟩ | ⟨c5087_, c5088_, c5089_, c5090_, c5091_, c5092_, c5093_, c5094_, c5095_, c5096_, c5097_, c5098_, c5099_, c5100_, c5101_, c5102_, rfl⟩ | ⟨c5103_, c5104_, c5105_, c5106_, c5107_, c5108_, c5109_, c5110_, c5111_, c5112_, c5113_, c5114_, c5115_, c5116_, c5117_, c5118_, rfl⟩
    · skip
      exfalso
      have z0_ := tz_neq_r c4066_ (show (0 : Int32).toInt = 0 by decide)
      have z1_ := tz_neq_r c4067_ (show (1 : Int32).toInt = 1 by decide)
      have z2_ := tz_neq_r c4068_ (show (2 : Int32).toInt = 2 by decide)
      have z3_ := tz_neq_r c4069_ (show (3 : Int32).toInt = 3 by decide)
      have z4_ := tz_neq_r c4070_ (show (4 : Int32).toInt = 4 by decide)
      have z5_ := tz_neq_r c4071_ (show (5 : Int32).toInt = 5 by decide)
      have z6_ := tz_neq_r c4072_ (show (6 : Int32).toInt = 6 by decide)
      have z7_ := tz_neq_r c4073_ (show (7 : Int32).toInt = 7 by decide)
      have z8_ := tz_neq_r c4074_ (show (8 : Int32).toInt = 8 by decide)
      have z9_ := tz_neq_r c4075_ (show (9 : Int32).toInt = 9 by decide)
      have z10_ := tz_neq_r c4076_ (show (10 : Int32).toInt = 10 by decide)
      have z11_ := tz_neq_r c4077_ (show (11 : Int32).toInt = 11 by decide)
      have z12_ := tz_neq_r c4078_ (show (12 : Int32).toInt = 12 by decide)
      have z13_ := tz_neq_r c4079_ (show (13 : Int32).toInt = 13 by decide)
      have z14_ := tz_nlt_r c4080_ (show (14 : Int32).toInt = 14 by decide)
      have z15_ := tz_nle_l c4081_ (show (21 : Int32).toInt = 21 by decide)
      have z16_ := tz_eq_r c5058_ (show (0 : Int32).toInt = 0 by decide)
      omega
    · skip
      exfalso
      have z0_ := tz_neq_r c4066_ (show (0 : Int32).toInt = 0 by decide)
      have z1_ := tz_neq_r c4067_ (show (1 : Int32).toInt = 1 by decide)
      have z2_ := tz_neq_r c4068_ (show (2 : Int32).toInt = 2 by decide)
      have z3_ := tz_neq_r c4069_ (show (3 : Int32).toInt = 3 by decide)
      have z4_ := tz_neq_r c4070_ (show (4 : Int32).toInt = 4 by decide)
      have z5_ := tz_neq_r c4071_ (show (5 : Int32).toInt = 5 by decide)
      have z6_ := tz_neq_r c4072_ (show (6 : Int32).toInt = 6 by decide)
      have z7_ := tz_neq_r c4073_ (show (7 : Int32).toInt = 7 by decide)
      have z8_ := tz_neq_r c4074_ (show (8 : Int32).toInt = 8 by decide)
      have z9_ := tz_neq_r c4075_ (show (9 : Int32).toInt = 9 by decide)
      have z10_ := tz_neq_r c4076_ (show (10 : Int32).toInt = 10 by decide)
      have z11_ := tz_neq_r c4077_ (show (11 : Int32).toInt = 11 by decide)
      have z12_ := tz_neq_r c4078_ (show (12 : Int32).toInt = 12 by decide)
      have z13_ := tz_neq_r c4079_ (show (13 : Int32).toInt = 13 by decide)
      have z14_ := tz_nlt_r c4080_ (show (14 : Int32).toInt = 14 by decide)
      have z15_ := tz_nle_l c4081_ (show (21 : Int32).toInt = 21 by decide)
      have z16_ := tz_eq_r c5059_ (show (1 : Int32).toInt = 1 by decide)
      omega
    · skip
      exfalso
      have z0_ := tz_neq_r c4066_ (show (0 : Int32).toInt = 0 by decide)
      have z1_ := tz_neq_r c4067_ (show (1 : Int32).toInt = 1 by decide)
      have z2_ := tz_neq_r c4068_ (show (2 : Int32).toInt = 2 by decide)
      have z3_ := tz_neq_r c4069_ (show (3 : Int32).toInt = 3 by decide)
      have z4_ := tz_neq_r c4070_ (show (4 : Int32).toInt = 4 by decide)
      have z5_ := tz_neq_r c4071_ (show (5 : Int32).toInt = 5 by decide)
      have z6_ := tz_neq_r c4072_ (show (6 : Int32).toInt = 6 by decide)
      have z7_ := tz_neq_r c4073_ (show (7 : Int32).toInt = 7 by decide)
      have z8_ := tz_neq_r c4074_ (show (8 : Int32).toInt = 8 by decide)
      have z9_ := tz_neq_r c4075_ (show (9 : Int32).toInt = 9 by decide)
      have z10_ := tz_neq_r c4076_ (show (10 : Int32).toInt = 10 by decide)
      have z11_ := tz_neq_r c4077_ (show (11 : Int32).toInt = 11 by decide)
      have z12_ := tz_neq_r c4078_ (show (12 : Int32).toInt = 12 by decide)
      have z13_ := tz_neq_r c4079_ (show (13 : Int32).toInt = 13 by decide)
      have z14_ := tz_nlt_r c4080_ (show (14 : Int32).toInt = 14 by decide)
      have z15_ := tz_nle_l c4081_ (show (21 : Int32).toInt = 21 by decide)
      have z16_ := tz_eq_r c5060_ (show (2 : Int32).toInt = 2 by decide)
      omega
    · skip
      exfalso
      have z0_ := tz_neq_r c4066_ (show (0 : Int32).toInt = 0 by decide)
      have z1_ := tz_neq_r c4067_ (show (1 : Int32).toInt = 1 by decide)
      have z2_ := tz_neq_r c4068_ (show (2 : Int32).toInt = 2 by decide)
      have z3_ := tz_neq_r c4069_ (show (3 : Int32).toInt = 3 by decide)
      have z4_ := tz_neq_r c4070_ (show (4 : Int32).toInt = 4 by decide)
      have z5_ := tz_neq_r c4071_ (show (5 : Int32).toInt = 5 by decide)
      have z6_ := tz_neq_r c4072_ (show (6 : Int32).toInt = 6 by decide)
      have z7_ := tz_neq_r c4073_ (show (7 : Int32).toInt = 7 by decide)
      have z8_ := tz_neq_r c4074_ (show (8 : Int32).toInt = 8 by decide)
      have z9_ := tz_neq_r c4075_ (show (9 : Int32).toInt = 9 by decide)
      have z10_ := tz_neq_r c4076_ (show (10 : Int32).toInt = 10 by decide)
      have z11_ := tz_neq_r c4077_ (show (11 : Int32).toInt = 11 by decide)
      have z12_ := tz_neq_r c4078_ (show (12 : Int32).toInt = 12 by decide)
      have z13_ := tz_neq_r c4079_ (show (13 : Int32).toInt = 13 by decide)
      have z14_ := tz_nlt_r c4080_ (show (14 : Int32).toInt = 14 by decide)
      have z15_ := tz_nle_l c4081_ (show (21 : Int32).toInt = 21 by decide)
      have z16_ := tz_eq_r c5061_ (show (3 : Int32).toInt = 3 by decide)
      omega
    · skip
      exfalso
      have z0_ := tz_neq_r c4066_ (show (0 : Int32).toInt = 0 by decide)
      have z1_ := tz_neq_r c4067_ (show (1 : Int32).toInt = 1 by decide)
      have z2_ := tz_neq_r c4068_ (show (2 : Int32).toInt = 2 by decide)
      have z3_ := tz_neq_r c4069_ (show (3 : Int32).toInt = 3 by decide)
      have z4_ := tz_neq_r c4070_ (show (4 : Int32).toInt = 4 by decide)
      have z5_ := tz_neq_r c4071_ (show (5 : Int32).toInt = 5 by decide)
      have z6_ := tz_neq_r c4072_ (show (6 : Int32).toInt = 6 by decide)
      have z7_ := tz_neq_r c4073_ (show (7 : Int32).toInt = 7 by decide)
      have z8_ := tz_neq_r c4074_ (show (8 : Int32).toInt = 8 by decide)
      have z9_ := tz_neq_r c4075_ (show (9 : Int32).toInt = 9 by decide)
      have z10_ := tz_neq_r c4076_ (show (10 : Int32).toInt = 10 by decide)
      have z11_ := tz_neq_r c4077_ (show (11 : Int32).toInt = 11 by decide)
      have z12_ := tz_neq_r c4078_ (show (12 : Int32).toInt = 12 by decide)
      have z13_ := tz_neq_r c4079_ (show (13 : Int32).toInt = 13 by decide)
      have z14_ := tz_nlt_r c4080_ (show (14 : Int32).toInt = 14 by decide)
      have z15_ := tz_nle_l c4081_ (show (21 : Int32).toInt = 21 by decide)
      have z16_ := tz_eq_r c5062_ (show (4 : Int32).toInt = 4 by decide)
      omega
    · skip
      exfalso
      have z0_ := tz_neq_r c4066_ (show (0 : Int32).toInt = 0 by decide)
      have z1_ := tz_neq_r c4067_ (show (1 : Int32).toInt = 1 by decide)
      have z2_ := tz_neq_r c4068_ (show (2 : Int32).toInt = 2 by decide)
      have z3_ := tz_neq_r c4069_ (show (3 : Int32).toInt = 3 by decide)
      have z4_ := tz_neq_r c4070_ (show (4 : Int32).toInt = 4 by decide)
      have z5_ := tz_neq_r c4071_ (show (5 : Int32).toInt = 5 by decide)
      have z6_ := tz_neq_r c4072_ (show (6 : Int32).toInt = 6 by decide)
      have z7_ := tz_neq_r c4073_ (show (7 : Int32).toInt = 7 by decide)
      have z8_ := tz_neq_r c4074_ (show (8 : Int32).toInt = 8 by decide)
      have z9_ := tz_neq_r c4075_ (show (9 : Int32).toInt = 9 by decide)
      have z10_ := tz_neq_r c4076_ (show (10 : Int32).toInt = 10 by decide)
      have z11_ := tz_neq_r c4077_ (show (11 : Int32).toInt = 11 by decide)
      have z12_ := tz_neq_r c4078_ (show (12 : Int32).toInt = 12 by decide)
      have z13_ := tz_neq_r c4079_ (show (13 : Int32).toInt = 13 by decide)
      have z14_ := tz_nlt_r c4080_ (show (14 : Int32).toInt = 14 by decide)
      have z15_ := tz_nle_l c4081_ (show (21 : Int32).toInt = 21 by decide)
      have z16_ := tz_eq_r c5063_ (show (5 : Int32).toInt = 5 by decide)
      omega
    · skip
      exfalso
      have z0_ := tz_neq_r c4066_ (show (0 : Int32).toInt = 0 by decide)
      have z1_ := tz_neq_r c4067_ (show (1 : Int32).toInt = 1 by decide)
      have z2_ := tz_neq_r c4068_ (show (2 : Int32).toInt = 2 by decide)
      have z3_ := tz_neq_r c4069_ (show (3 : Int32).toInt = 3 by decide)
      have z4_ := tz_neq_r c4070_ (show (4 : Int32).toInt = 4 by decide)
      have z5_ := tz_neq_r c4071_ (show (5 : Int32).toInt = 5 by decide)
      have z6_ := tz_neq_r c4072_ (show (6 : Int32).toInt = 6 by decide)
      have z7_ := tz_neq_r c4073_ (show (7 : Int32).toInt = 7 by decide)
      have z8_ := tz_neq_r c4074_ (show (8 : Int32).toInt = 8 by decide)
      have z9_ := tz_neq_r c4075_ (show (9 : Int32).toInt = 9 by decide)
      have z10_ := tz_neq_r c4076_ (show (10 : Int32).toInt = 10 by decide)
      have z11_ := tz_neq_r c4077_ (show (11 : Int32).toInt = 11 by decide)
      have z12_ := tz_neq_r c4078_ (show (12 : Int32).toInt = 12 by decide)
      have z13_ := tz_neq_r c4079_ (show (13 : Int32).toInt = 13 by decide)
      have z14_ := tz_nlt_r c4080_ (show (14 : Int32).toInt = 14 by decide)
      have z15_ := tz_nle_l c4081_ (show (21 : Int32).toInt = 21 by decide)
      have z16_ := tz_eq_r c5064_ (show (6 : Int32).toInt = 6 by decide)
      omega
    · skip
      exfalso
      have z0_ := tz_neq_r c4066_ (show (0 : Int32).toInt = 0 by decide)
      have z1_ := tz_neq_r c4067_ (show (1 : Int32).toInt = 1 by decide)
      have z2_ := tz_neq_r c4068_ (show (2 : Int32).toInt = 2 by decide)
      have z3_ := tz_neq_r c4069_ (show (3 : Int32).toInt = 3 by decide)
      have z4_ := tz_neq_r c4070_ (show (4 : Int32).toInt = 4 by decide)
      have z5_ := tz_neq_r c4071_ (show (5 : Int32).toInt = 5 by decide)
      have z6_ := tz_neq_r c4072_ (show (6 : Int32).toInt = 6 by decide)
      have z7_ := tz_neq_r c4073_ (show (7 : Int32).toInt = 7 by decide)
      have z8_ := tz_neq_r c4074_ (show (8 : Int32).toInt = 8 by decide)
      have z9_ := tz_neq_r c4075_ (show (9 : Int32).toInt = 9 by decide)
      have z10_ := tz_neq_r c4076_ (show (10 : Int32).toInt = 10 by decide)
      have z11_ := tz_neq_r c4077_ (show (11 : Int32).toInt = 11 by decide)
      have z12_ := tz_neq_r c4078_ (show (12 : Int32).toInt = 12 by decide)
      have z13_ := tz_neq_r c4079_ (show (13 : Int32).toInt = 13 by decide)
      have z14_ := tz_nlt_r c4080_ (show (14 : Int32).toInt = 14 by decide)
      have z15_ := tz_nle_l c4081_ (show (21 : Int32).toInt = 21 by decide)
      have z16_ := tz_eq_r c5065_ (show (7 : Int32).toInt = 7 by decide)
      omega
    · skip
      exfalso
      have z0_ := tz_neq_r c4066_ (show (0 : Int32).toInt = 0 by decide)
      have z1_ := tz_neq_r c4067_ (show (1 : Int32).toInt = 1 by decide)
      have z2_ := tz_neq_r c4068_ (show (2 : Int32).toInt = 2 by decide)
      have z3_ := tz_neq_r c4069_ (show (3 : Int32).toInt = 3 by decide)
      have z4_ := tz_neq_r c4070_ (show (4 : Int32).toInt = 4 by decide)
      have z5_ := tz_neq_r c4071_ (show (5 : Int32).toInt = 5 by decide)
      have z6_ := tz_neq_r c4072_ (show (6 : Int32).toInt = 6 by decide)
      have z7_ := tz_neq_r c4073_ (show (7 : Int32).toInt = 7 by decide)
      have z8_ := tz_neq_r c4074_ (show (8 : Int32).toInt = 8 by decide)
      have z9_ := tz_neq_r c4075_ (show (9 : Int32).toInt = 9 by decide)
      have z10_ := tz_neq_r c4076_ (show (10 : Int32).toInt = 10 by decide)
      have z11_ := tz_neq_r c4077_ (show (11 : Int32).toInt = 11 by decide)
      have z12_ := tz_neq_r c4078_ (show (12 : Int32).toInt = 12 by decide)
      have z13_ := tz_neq_r c4079_ (show (13 : Int32).toInt = 13 by decide)
      have z14_ := tz_nlt_r c4080_ (show (14 : Int32).toInt = 14 by decide)
      have z15_ := tz_nle_l c4081_ (show (21 : Int32).toInt = 21 by decide)
      have z16_ := tz_eq_r c5066_ (show (8 : Int32).toInt = 8 by decide)
      omega
    · skip
      exfalso
      have z0_ := tz_neq_r c4066_ (show (0 : Int32).toInt = 0 by decide)
      have z1_ := tz_neq_r c4067_ (show (1 : Int32).toInt = 1 by decide)
      have z2_ := tz_neq_r c4068_ (show (2 : Int32).toInt = 2 by decide)
      have z3_ := tz_neq_r c4069_ (show (3 : Int32).toInt = 3 by decide)
      have z4_ := tz_neq_r c4070_ (show (4 : Int32).toInt = 4 by decide)
      have z5_ := tz_neq_r c4071_ (show (5 : Int32).toInt = 5 by decide)
      have z6_ := tz_neq_r c4072_ (show (6 : Int32).toInt = 6 by decide)
      have z7_ := tz_neq_r c4073_ (show (7 : Int32).toInt = 7 by decide)
      have z8_ := tz_neq_r c4074_ (show (8 : Int32).toInt = 8 by decide)
      have z9_ := tz_neq_r c4075_ (show (9 : Int32).toInt = 9 by decide)
      have z10_ := tz_neq_r c4076_ (show (10 : Int32).toInt = 10 by decide)
      have z11_ := tz_neq_r c4077_ (show (11 : Int32).toInt = 11 by decide)
      have z12_ := tz_neq_r c4078_ (show (12 : Int32).toInt = 12 by decide)
      have z13_ := tz_neq_r c4079_ (show (13 : Int32).toInt = 13 by decide)
      have z14_ := tz_nlt_r c4080_ (show (14 : Int32).toInt = 14 by decide)
      have z15_ := tz_nle_l c4081_ (show (21 : Int32).toInt = 21 by decide)
      have z16_ := tz_eq_r c5067_ (show (9 : Int32).toInt = 9 by decide)
      omega
    · skip
      exfalso
      have z0_ := tz_neq_r c4066_ (show (0 : Int32).toInt = 0 by decide)
      have z1_ := tz_neq_r c4067_ (show (1 : Int32).toInt = 1 by decide)
      have z2_ := tz_neq_r c4068_ (show (2 : Int32).toInt = 2 by decide)
      have z3_ := tz_neq_r c4069_ (show (3 : Int32).toInt = 3 by decide)
      have z4_ := tz_neq_r c4070_ (show (4 : Int32).toInt = 4 by decide)
      have z5_ := tz_neq_r c4071_ (show (5 : Int32).toInt = 5 by decide)
      have z6_ := tz_neq_r c4072_ (show (6 : Int32).toInt = 6 by decide)
      have z7_ := tz_neq_r c4073_ (show (7 : Int32).toInt = 7 by decide)
      have z8_ := tz_neq_r c4074_ (show (8 : Int32).toInt = 8 by decide)
      have z9_ := tz_neq_r c4075_ (show (9 : Int32).toInt = 9 by decide)
      have z10_ := tz_neq_r c4076_ (show (10 : Int32).toInt = 10 by decide)
      have z11_ := tz_neq_r c4077_ (show (11 : Int32).toInt = 11 by decide)
      have z12_ := tz_neq_r c4078_ (show (12 : Int32).toInt = 12 by decide)
      have z13_ := tz_neq_r c4079_ (show (13 : Int32).toInt = 13 by decide)
      have z14_ := tz_nlt_r c4080_ (show (14 : Int32).toInt = 14 by decide)
      have z15_ := tz_nle_l c4081_ (show (21 : Int32).toInt = 21 by decide)
      have z16_ := tz_eq_r c5068_ (show (10 : Int32).toInt = 10 by decide)
      omega
    · skip
      exfalso
      have z0_ := tz_neq_r c4066_ (show (0 : Int32).toInt = 0 by decide)
      have z1_ := tz_neq_r c4067_ (show (1 : Int32).toInt = 1 by decide)
      have z2_ := tz_neq_r c4068_ (show (2 : Int32).toInt = 2 by decide)
      have z3_ := tz_neq_r c4069_ (show (3 : Int32).toInt = 3 by decide)
      have z4_ := tz_neq_r c4070_ (show (4 : Int32).toInt = 4 by decide)
      have z5_ := tz_neq_r c4071_ (show (5 : Int32).toInt = 5 by decide)
      have z6_ := tz_neq_r c4072_ (show (6 : Int32).toInt = 6 by decide)
      have z7_ := tz_neq_r c4073_ (show (7 : Int32).toInt = 7 by decide)
      have z8_ := tz_neq_r c4074_ (show (8 : Int32).toInt = 8 by decide)
      have z9_ := tz_neq_r c4075_ (show (9 : Int32).toInt = 9 by decide)
      have z10_ := tz_neq_r c4076_ (show (10 : Int32).toInt = 10 by decide)
      have z11_ := tz_neq_r c4077_ (show (11 : Int32).toInt = 11 by decide)
      have z12_ := tz_neq_r c4078_ (show (12 : Int32).toInt = 12 by decide)
      have z13_ := tz_neq_r c4079_ (show (13 : Int32).toInt = 13 by decide)
      have z14_ := tz_nlt_r c4080_ (show (14 : Int32).toInt = 14 by decide)
      have z15_ := tz_nle_l c4081_ (show (21 : Int32).toInt = 21 by decide)
      have z16_ := tz_eq_r c5069_ (show (11 : Int32).toInt = 11 by decide)
      omega
    · skip
      exfalso
      have z0_ := tz_neq_r c4066_ (show (0 : Int32).toInt = 0 by decide)
      have z1_ := tz_neq_r c4067_ (show (1 : Int32).toInt = 1 by decide)
      have z2_ := tz_neq_r c4068_ (show (2 : Int32).toInt = 2 by decide)
      have z3_ := tz_neq_r c4069_ (show (3 : Int32).toInt = 3 by decide)
      have z4_ := tz_neq_r c4070_ (show (4 : Int32).toInt = 4 by decide)
      have z5_ := tz_neq_r c4071_ (show (5 : Int32).toInt = 5 by decide)
      have z6_ := tz_neq_r c4072_ (show (6 : Int32).toInt = 6 by decide)
      have z7_ := tz_neq_r c4073_ (show (7 : Int32).toInt = 7 by decide)
      have z8_ := tz_neq_r c4074_ (show (8 : Int32).toInt = 8 by decide)
      have z9_ := tz_neq_r c4075_ (show (9 : Int32).toInt = 9 by decide)
      have z10_ := tz_neq_r c4076_ (show (10 : Int32).toInt = 10 by decide)
      have z11_ := tz_neq_r c4077_ (show (11 : Int32).toInt = 11 by decide)
      have z12_ := tz_neq_r c4078_ (show (12 : Int32).toInt = 12 by decide)
      have z13_ := tz_neq_r c4079_ (show (13 : Int32).toInt = 13 by decide)
      have z14_ := tz_nlt_r c4080_ (show (14 : Int32).toInt = 14 by decide)
      have z15_ := tz_nle_l c4081_ (show (21 : Int32).toInt = 21 by decide)
      have z16_ := tz_eq_r c5070_ (show (12 : Int32).toInt = 12 by decide)
      omega
    · skip
      exfalso
      have z0_ := tz_neq_r c4066_ (show (0 : Int32).toInt = 0 by decide)
      have z1_ := tz_neq_r c4067_ (show (1 : Int32).toInt = 1 by decide)
      have z2_ := tz_neq_r c4068_ (show (2 : Int32).toInt = 2 by decide)
      have z3_ := tz_neq_r c4069_ (show (3 : Int32).toInt = 3 by decide)
      have z4_ := tz_neq_r c4070_ (show (4 : Int32).toInt = 4 by decide)
      have z5_ := tz_neq_r c4071_ (show (5 : Int32).toInt = 5 by decide)
      have z6_ := tz_neq_r c4072_ (show (6 : Int32).toInt = 6 by decide)
      have z7_ := tz_neq_r c4073_ (show (7 : Int32).toInt = 7 by decide)
      have z8_ := tz_neq_r c4074_ (show (8 : Int32).toInt = 8 by decide)
      have z9_ := tz_neq_r c4075_ (show (9 : Int32).toInt = 9 by decide)
      have z10_ := tz_neq_r c4076_ (show (10 : Int32).toInt = 10 by decide)
      have z11_ := tz_neq_r c4077_ (show (11 : Int32).toInt = 11 by decide)
      have z12_ := tz_neq_r c4078_ (show (12 : Int32).toInt = 12 by decide)
      have z13_ := tz_neq_r c4079_ (show (13 : Int32).toInt = 13 by decide)
      have z14_ := tz_nlt_r c4080_ (show (14 : Int32).toInt = 14 by decide)
      have z15_ := tz_nle_l c4081_ (show (21 : Int32).toInt = 21 by decide)
      have z16_ := tz_eq_r c5071_ (show (13 : Int32).toInt = 13 by decide)
      omega
    · skip
      exfalso
      have z0_ := tz_neq_r c4066_ (show (0 : Int32).toInt = 0 by decide)
      have z1_ := tz_neq_r c4067_ (show (1 : Int32).toInt = 1 by decide)
      have z2_ := tz_neq_r c4068_ (show (2 : Int32).toInt = 2 by decide)
      have z3_ := tz_neq_r c4069_ (show (3 : Int32).toInt = 3 by decide)
      have z4_ := tz_neq_r c4070_ (show (4 : Int32).toInt = 4 by decide)
      have z5_ := tz_neq_r c4071_ (show (5 : Int32).toInt = 5 by decide)
      have z6_ := tz_neq_r c4072_ (show (6 : Int32).toInt = 6 by decide)
      have z7_ := tz_neq_r c4073_ (show (7 : Int32).toInt = 7 by decide)
      have z8_ := tz_neq_r c4074_ (show (8 : Int32).toInt = 8 by decide)
      have z9_ := tz_neq_r c4075_ (show (9 : Int32).toInt = 9 by decide)
      have z10_ := tz_neq_r c4076_ (show (10 : Int32).toInt = 10 by decide)
      have z11_ := tz_neq_r c4077_ (show (11 : Int32).toInt = 11 by decide)
      have z12_ := tz_neq_r c4078_ (show (12 : Int32).toInt = 12 by decide)
      have z13_ := tz_neq_r c4079_ (show (13 : Int32).toInt = 13 by decide)
      have z14_ := tz_nlt_r c4080_ (show (14 : Int32).toInt = 14 by decide)
      have z15_ := tz_nle_l c4081_ (show (21 : Int32).toInt = 21 by decide)
      have z16_ := tz_lt_r c5086_ (show (14 : Int32).toInt = 14 by decide)
      omega
    · skip
      exfalso
      have z0_ := tz_neq_r c4066_ (show (0 : Int32).toInt = 0 by decide)
      have z1_ := tz_neq_r c4067_ (show (1 : Int32).toInt = 1 by decide)
      have z2_ := tz_neq_r c4068_ (show (2 : Int32).toInt = 2 by decide)
      have z3_ := tz_neq_r c4069_ (show (3 : Int32).toInt = 3 by decide)
      have z4_ := tz_neq_r c4070_ (show (4 : Int32).toInt = 4 by decide)
      have z5_ := tz_neq_r c4071_ (show (5 : Int32).toInt = 5 by decide)
      have z6_ := tz_neq_r c4072_ (show (6 : Int32).toInt = 6 by decide)
      have z7_ := tz_neq_r c4073_ (show (7 : Int32).toInt = 7 by decide)
      have z8_ := tz_neq_r c4074_ (show (8 : Int32).toInt = 8 by decide)
      have z9_ := tz_neq_r c4075_ (show (9 : Int32).toInt = 9 by decide)
      have z10_ := tz_neq_r c4076_ (show (10 : Int32).toInt = 10 by decide)
      have z11_ := tz_neq_r c4077_ (show (11 : Int32).toInt = 11 by decide)
      have z12_ := tz_neq_r c4078_ (show (12 : Int32).toInt = 12 by decide)
      have z13_ := tz_neq_r c4079_ (show (13 : Int32).toInt = 13 by decide)
      have z14_ := tz_nlt_r c4080_ (show (14 : Int32).toInt = 14 by decide)
      have z15_ := tz_nle_l c4081_ (show (21 : Int32).toInt = 21 by decide)
      have z16_ := tz_lt_l c5102_ (show (20 : Int32).toInt = 20 by decide)
      omega
    · skip
      refine lv_icmp_eq (tgt := 983) hx hb dL_law_965 (by decide) (fun _ => ?_) (fun c9_ => absurd (by decide) c9_)
      refine lv_iinc (v := 6) (lv' := [(3, .int 6), (2, .ref (b 0)), (1, .ref (a 0)), (0, .ref sc)]) hx hb dL_law_983 hl (k := 0) rfl (by decide) (by decide) rfl (fun ls hl => ?_)
      refine lv_goto (tgt := 18) hx hb dL_law_986 (by decide) ?_
      refine lv_iload_n hx hb dL_law_18 rfl (lv_at hl 0 rfl) ?_
      refine lv_aload_n hx hb dL_law_19 rfl (lv_at hl 3 rfl) ?_
      refine va_slen hx hb hX hbl hbA hS dL_law_20 ?_
      refine tk_i 6 (by decide) ?_
      refine lv_bipush (v := 6) hx hb dL_law_21 (by decide) ?_
      refine lv_isub hx hb dL_law_23 ?_
      refine tk_i 0 (by decide) ?_
      refine lv_icmp_gt (tgt := 989) hx hb dL_law_24 (by decide) (fun _ => ?_) (fun c9_ => absurd (by decide) c9_)
      refine lv_iconst (v := 1) hx hb dL_law_989 (by decide) ?_
      refine va_forget (fun q hq => by have h := hS.2.2 q hq; rw [hAe] at h; exact h) ?_
      refine W.widen (k := 600000) (n := 7302249) (Nat.le_of_ble_eq_true rfl) (Nat.le_of_ble_eq_true rfl) ?_
      exact lw_ret hx hb hr hlocks dL_law_990
