/-! ===== methods of the landed text (by program) ===== -/
set_option maxRecDepth 20000 in
set_option maxHeartbeats 4000000 in
theorem cw_putScan (d : Nat) {ty : Nat → Nat} {h : gH} (hJ : gJ rT 1027 ty h) (x : Nat) (tx : ty x = 71) (f : Int) (rf : 0 ≤ f ∧ f ≤ 63) (t : Int) (rt : 0 ≤ t ∧ t ≤ 63) (hi : Int) (rhi : 0 ≤ hi ∧ hi ≤ 4) (lo : Int) (rlo : 0 ≤ lo ∧ lo ≤ 3) (sk : Nat) (esk : h.2.2.2.2 x 0 = .ref sk) (tsk : ty sk = 56) (bt : Nat) (ebt : h.2.2.2.2 sk 0 = .ref bt) (tbt : ty bt = 114) (c0 : Int) (ec0 : h.2.2.2.2 sk 1 = .int (zi c0)) (rc0 : 0 ≤ c0 ∧ c0 ≤ 499999) (u0 : Int) (eu0 : h.2.2.2.2 sk 2 = .int (zi u0)) (ru0 : 0 ≤ u0 ∧ u0 ≤ 127) (h0 : Int) (eh0 : h.2.2.2.2 sk 3 = .int (zi h0)) (rh0 : 0 ≤ h0 ∧ h0 ≤ 7) (bs : Int) (ebs : h.2.2.2.2 x 5 = .int (zi bs)) (rbs : 0 ≤ bs ∧ bs ≤ 16) (iv : Int) (eiv : h.2.2.2.2 x 6 = .int (zi iv)) (riv : 0 ≤ iv ∧ iv ≤ 100) (cf : Nat → Int) (sg : gWt) (pp0 : c0 = sg.1) (pp1 : u0 = sg.2.1) (pp2 : h0 = sg.2.2.1) (pp3 : 4 * c0 + h0 + 16 * (656 + 320 * (t - f)) + 2500 ≤ 1997990) (pp4 : f ≤ t) (pp5 : f = 0 → (t = 0 ∨ hi = 0)) (pp6 : c0 ≤ (h.2.2.2.1 bt : Int)) (uq : gUq ty) (hysw : gSW ty bt sg h) (hyok : eeOk sg) (hyf73 : gRn (64 * bs).toNat ty 73 cf h) : gz gPP gGG gcn (d + 7) gt104 0 (gent [.ref x, .int (zi f), .int (zi t), .int (zi hi), .int (zi lo)] 5) [] h (fun q _ => ∃ ty9 : Nat → Nat, gSg [114] [] [56000, 56001, 56002, 56003, 71007, 71008, 71009, 71010, 71011, 71012, 71013, 71014, 76999, 77999, 78999, 79999, 80999, 81999, 85999, 91004, 91008, 92004, 92008, 93999, 94999, 95999, 96999, 97999, 98999, 99999, 114999] ty h ty9 q.2.2 ∧ ∃ bt2 : Nat, True ∧ ∃ c1 u1 h1 : Int, q.2.2.2.2.2.2 sk 0 = .ref bt2 ∧ ty9 bt2 = 114 ∧ gfin gt104 q.1 q.2.1 = some none ∧ q.2.2.2.2.2.2 sk 1 = .int (zi c1) ∧ 0 ≤ c1 ∧ c1 ≤ 500000 ∧ q.2.2.2.2.2.2 sk 2 = .int (zi u1) ∧ 0 ≤ u1 ∧ u1 ≤ 127 ∧ q.2.2.2.2.2.2 sk 3 = .int (zi h1) ∧ 0 ≤ h1 ∧ h1 ≤ 7 ∧ (c1 = (eSc iv f t hi lo cf (bs).toNat sg).1) ∧ (u1 = (eSc iv f t hi lo cf (bs).toNat sg).2.1) ∧ (h1 = (eSc iv f t hi lo cf (bs).toNat sg).2.2.1) ∧ (4 * c1 + h1 ≤ 4 * c0 + h0 + 16 * (656 + 320 * (t - f)) + 2500) ∧ (c0 ≤ c1) ∧ (1024 * ((q.2.2.1 : Int) - h.1) ≤ (q.2.2.2.2.2.1 bt2 : Int) - h.2.2.2.1 bt) ∧ (((q.2.2.2.1 : Int) - h.2.1) ≤ 2 * ((q.2.2.2.2.2.1 bt2 : Int) - h.2.2.2.1 bt)) ∧ ((h.2.2.2.1 bt : Int) ≤ (q.2.2.2.2.2.1 bt2 : Int)) ∧ (c1 ≤ (q.2.2.2.2.2.1 bt2 : Int)) ∧ (gSW ty9 bt2 (eSc iv f t hi lo cf (bs).toNat sg) q.2.2) ∧ (eeOk (eSc iv f t hi lo cf (bs).toNat sg))) := by
  have hS : gSs rT 1027 ty [56000, 56001, 56002, 56003, 71007, 71008, 71009, 71010, 71011, 71012, 71013, 71014, 76999, 77999, 78999, 79999, 80999, 81999, 85999, 91004, 91008, 92004, 92008, 93999, 94999, 95999, 96999, 97999, 98999, 99999, 114999] h h := gSs.rf hJ
  have G0 : gSg [114] [] [56000, 56001, 56002, 56003, 71007, 71008, 71009, 71010, 71011, 71012, 71013, 71014, 76999, 77999, 78999, 79999, 80999, 81999, 85999, 91004, 91008, 92004, 92008, 93999, 94999, 95999, 96999, 97999, 98999, 99999, 114999] ty h ty h := gSg.rf hJ (fun x hx => by cases hx)
  refine gz_s 2 (pc' := 2) (L' := [some (.ref x), some (.int (zi f)), some (.int (zi t)), some (.int (zi hi)), some (.int (zi lo))]) (S' := [.int (zi f), .ref x]) rfl ?_
  refine gs_put rfl (by decide) rfl hS tx rfl rfl rfl rfl (Or.inl rfl) (by decide) (by omega) (by omega) (fun h1 sh1 eh1 fh1 => ?_)
  have pr2 := gSW.pt fh1 tx (by decide) hysw
  have pr3 := gRn.pt fh1 tx (by decide) hyf73
  have s4 := (fh1 x 0 (fun q => absurd q.2 (by decide))).trans esk
  have s5 := (fh1 sk 0 (fun q => absurd q.2 (by decide))).trans ebt
  have s6 := (fh1 sk 1 (fun q => absurd q.2 (by decide))).trans ec0
  have s7 := (fh1 sk 2 (fun q => absurd q.2 (by decide))).trans eu0
  have s8 := (fh1 sk 3 (fun q => absurd q.2 (by decide))).trans eh0
  have s9 := (fh1 x 5 (fun q => absurd q.2 (by decide))).trans ebs
  have s10 := (fh1 x 6 (fun q => absurd q.2 (by decide))).trans eiv
  refine gz_s 2 (pc' := 7) (L' := [some (.ref x), some (.int (zi f)), some (.int (zi t)), some (.int (zi hi)), some (.int (zi lo))]) (S' := [.int (zi t), .ref x]) rfl ?_
  refine gs_put rfl (by decide) rfl sh1 tx rfl rfl rfl rfl (Or.inl rfl) (by decide) (by omega) (by omega) (fun h11 sh11 eh11 fh11 => ?_)
  have pr12 := gSW.pt fh11 tx (by decide) pr2
  have pr13 := gRn.pt fh11 tx (by decide) pr3
  have s14 := (fh11 x 0 (fun q => absurd q.2 (by decide))).trans s4
  have s15 := (fh11 sk 0 (fun q => absurd q.2 (by decide))).trans s5
  have s16 := (fh11 sk 1 (fun q => absurd q.2 (by decide))).trans s6
  have s17 := (fh11 sk 2 (fun q => absurd q.2 (by decide))).trans s7
  have s18 := (fh11 sk 3 (fun q => absurd q.2 (by decide))).trans s8
  have s19 := (fh11 x 5 (fun q => absurd q.2 (by decide))).trans s9
  have s20 := (fh11 x 6 (fun q => absurd q.2 (by decide))).trans s10
  have s21 := (fh11 x 7 (fun q => absurd q.2 (by decide))).trans eh1
  refine gz_s 2 (pc' := 12) (L' := [some (.ref x), some (.int (zi f)), some (.int (zi t)), some (.int (zi hi)), some (.int (zi lo))]) (S' := [.int (zi hi), .ref x]) rfl ?_
  refine gs_put rfl (by decide) rfl sh11 tx rfl rfl rfl rfl (Or.inl rfl) (by decide) (by omega) (by omega) (fun h22 sh22 eh22 fh22 => ?_)
  have pr23 := gSW.pt fh22 tx (by decide) pr12
  have pr24 := gRn.pt fh22 tx (by decide) pr13
  have s25 := (fh22 x 0 (fun q => absurd q.2 (by decide))).trans s14
  have s26 := (fh22 sk 0 (fun q => absurd q.2 (by decide))).trans s15
  have s27 := (fh22 sk 1 (fun q => absurd q.2 (by decide))).trans s16
  have s28 := (fh22 sk 2 (fun q => absurd q.2 (by decide))).trans s17
  have s29 := (fh22 sk 3 (fun q => absurd q.2 (by decide))).trans s18
  have s30 := (fh22 x 5 (fun q => absurd q.2 (by decide))).trans s19
  have s31 := (fh22 x 6 (fun q => absurd q.2 (by decide))).trans s20
  have s32 := (fh22 x 7 (fun q => absurd q.2 (by decide))).trans s21
  have s33 := (fh22 x 8 (fun q => absurd q.2 (by decide))).trans eh11
  refine gz_s 2 (pc' := 18) (L' := [some (.ref x), some (.int (zi f)), some (.int (zi t)), some (.int (zi hi)), some (.int (zi lo))]) (S' := [.int (zi lo), .ref x]) rfl ?_
  refine gs_put rfl (by decide) rfl sh22 tx rfl rfl rfl rfl (Or.inl rfl) (by decide) (by omega) (by omega) (fun h34 sh34 eh34 fh34 => ?_)
  have pr35 := gSW.pt fh34 tx (by decide) pr23
  have pr36 := gRn.pt fh34 tx (by decide) pr24
  have s37 := (fh34 x 0 (fun q => absurd q.2 (by decide))).trans s25
  have s38 := (fh34 sk 0 (fun q => absurd q.2 (by decide))).trans s26
  have s39 := (fh34 sk 1 (fun q => absurd q.2 (by decide))).trans s27
  have s40 := (fh34 sk 2 (fun q => absurd q.2 (by decide))).trans s28
  have s41 := (fh34 sk 3 (fun q => absurd q.2 (by decide))).trans s29
  have s42 := (fh34 x 5 (fun q => absurd q.2 (by decide))).trans s30
  have s43 := (fh34 x 6 (fun q => absurd q.2 (by decide))).trans s31
  have s44 := (fh34 x 7 (fun q => absurd q.2 (by decide))).trans s32
  have s45 := (fh34 x 8 (fun q => absurd q.2 (by decide))).trans s33
  have s46 := (fh34 x 9 (fun q => absurd q.2 (by decide))).trans eh22
  refine gz_s 1 (pc' := 22) (L' := [some (.ref x), some (.int (zi f)), some (.int (zi t)), some (.int (zi hi)), some (.int (zi lo))]) (S' := [.ref x]) rfl ?_
  refine gs_gtr rfl (by decide) rfl sh34.1 tx rfl rfl rfl (fun c47 ec47 tc47 => ?_)
  refine gz_s 1 (pc' := 26) (L' := [some (.ref x), some (.int (zi f)), some (.int (zi t)), some (.int (zi hi)), some (.int (zi lo))]) (S' := [.int (zi 0), .ref c47]) rfl ?_
  have he50 : (0 : Int) = 0 := by omega
  refine gs_aal (j := 0) (q2 := 91) rfl (by decide) sh34.1 tc47 rfl rfl rfl (by decide) he50 rfl (by decide) (fun c51 ec51 tc51 => ?_)
  refine gz_call rfl (by decide) rfl (by decide) (by decide) (gcal_of rfl rfl rfl (Nat.le_of_ble_eq_true rfl) (gJ.recv (G := gGG) sh34.1 tc51 rfl rfl)) (cw_Suited0_forget _ sh34.1 c51 tc51 uq) (fun q52 _ wq52 => ?_)
  obtain ⟨pq52, oq52, hq52⟩ := q52
  obtain ⟨xq52, gq52, yq52_0⟩ := wq52
  refine ⟨_, gq52, ?_⟩
  show gz gPP gGG gcn _ _ 30 [some (.ref x), some (.int (zi f)), some (.int (zi t)), some (.int (zi hi)), some (.int (zi lo))] [] hq52 _
  have sq52 : gSs rT 1027 ty [56000, 56001, 56002, 56003, 71007, 71008, 71009, 71010, 71011, 71012, 71013, 71014, 76999, 77999, 78999, 79999, 80999, 81999, 85999, 91004, 91008, 92004, 92008, 93999, 94999, 95999, 96999, 97999, 98999, 99999, 114999] h hq52 := gSs.tr sh34 xq52 (by decide)
  have s53 := (xq52.2.2.2.2.2 x 0 (by rw [tx]; decide)).trans s37
  have s54 := (xq52.2.2.2.2.2 sk 0 (by rw [tsk]; decide)).trans s38
  have s55 := (xq52.2.2.2.2.2 sk 1 (by rw [tsk]; decide)).trans s39
  have s56 := (xq52.2.2.2.2.2 sk 2 (by rw [tsk]; decide)).trans s40
  have s57 := (xq52.2.2.2.2.2 sk 3 (by rw [tsk]; decide)).trans s41
  have s58 := (xq52.2.2.2.2.2 x 5 (by rw [tx]; decide)).trans s42
  have s59 := (xq52.2.2.2.2.2 x 6 (by rw [tx]; decide)).trans s43
  have s60 := (xq52.2.2.2.2.2 x 7 (by rw [tx]; decide)).trans s44
  have s61 := (xq52.2.2.2.2.2 x 8 (by rw [tx]; decide)).trans s45
  have s62 := (xq52.2.2.2.2.2 x 9 (by rw [tx]; decide)).trans s46
  have s63 := (xq52.2.2.2.2.2 x 10 (by rw [tx]; decide)).trans eh34
  have s64 := (xq52.2.2.2.2.2 x 4 (by rw [tx]; decide)).trans ec47
  have s65 := (xq52.2.2.2.2.2 c47 0 (by rw [tc47]; decide)).trans ec51
  have pr66 := gSW.fr xq52.2 (by decide) pr35
  have pr67 := gRn.fr xq52.2 (by decide) pr36
  refine gz_s 1 (pc' := 31) (L' := [some (.ref x), some (.int (zi f)), some (.int (zi t)), some (.int (zi hi)), some (.int (zi lo))]) (S' := [.ref x]) rfl ?_
  refine gs_gtk rfl (by decide) rfl sq52.1 tx rfl rfl s64 ?_
  refine gz_s 1 (pc' := 35) (L' := [some (.ref x), some (.int (zi f)), some (.int (zi t)), some (.int (zi hi)), some (.int (zi lo))]) (S' := [.int (zi 1), .ref c47]) rfl ?_
  have he70 : (1 : Int) = 1 := by omega
  refine gs_aal (j := 1) (q2 := 92) rfl (by decide) sq52.1 tc47 rfl rfl rfl (by decide) he70 rfl (by decide) (fun c71 ec71 tc71 => ?_)
  refine gz_call rfl (by decide) rfl (by decide) (by decide) (gcal_of rfl rfl rfl (Nat.le_of_ble_eq_true rfl) (gJ.recv (G := gGG) sq52.1 tc71 rfl rfl)) (cw_Suited1_forget _ sq52.1 c71 tc71 uq) (fun q72 _ wq72 => ?_)
  obtain ⟨pq72, oq72, hq72⟩ := q72
  obtain ⟨xq72, gq72, yq72_0⟩ := wq72
  refine ⟨_, gq72, ?_⟩
  show gz gPP gGG gcn _ _ 39 [some (.ref x), some (.int (zi f)), some (.int (zi t)), some (.int (zi hi)), some (.int (zi lo))] [] hq72 _
  have sq72 : gSs rT 1027 ty [56000, 56001, 56002, 56003, 71007, 71008, 71009, 71010, 71011, 71012, 71013, 71014, 76999, 77999, 78999, 79999, 80999, 81999, 85999, 91004, 91008, 92004, 92008, 93999, 94999, 95999, 96999, 97999, 98999, 99999, 114999] h hq72 := gSs.tr sq52 xq72 (by decide)
  have s73 := (xq72.2.2.2.2.2 x 0 (by rw [tx]; decide)).trans s53
  have s74 := (xq72.2.2.2.2.2 sk 0 (by rw [tsk]; decide)).trans s54
  have s75 := (xq72.2.2.2.2.2 sk 1 (by rw [tsk]; decide)).trans s55
  have s76 := (xq72.2.2.2.2.2 sk 2 (by rw [tsk]; decide)).trans s56
  have s77 := (xq72.2.2.2.2.2 sk 3 (by rw [tsk]; decide)).trans s57
  have s78 := (xq72.2.2.2.2.2 x 5 (by rw [tx]; decide)).trans s58
  have s79 := (xq72.2.2.2.2.2 x 6 (by rw [tx]; decide)).trans s59
  have s80 := (xq72.2.2.2.2.2 x 7 (by rw [tx]; decide)).trans s60
  have s81 := (xq72.2.2.2.2.2 x 8 (by rw [tx]; decide)).trans s61
  have s82 := (xq72.2.2.2.2.2 x 9 (by rw [tx]; decide)).trans s62
  have s83 := (xq72.2.2.2.2.2 x 10 (by rw [tx]; decide)).trans s63
  have s84 := (xq72.2.2.2.2.2 x 4 (by rw [tx]; decide)).trans s64
  have s85 := (xq72.2.2.2.2.2 c47 0 (by rw [tc47]; decide)).trans s65
  have s86 := (xq72.2.2.2.2.2 c47 1 (by rw [tc47]; decide)).trans ec71
  have pr87 := gSW.fr xq72.2 (by decide) pr66
  have pr88 := gRn.fr xq72.2 (by decide) pr67
  have pr89 := gRn.fr xq72.2 (by decide) yq52_0
  refine gz_s 2 (pc' := 41) (L' := [some (.ref x), some (.int (zi f)), some (.int (zi t)), some (.int (zi hi)), some (.int (zi lo))]) (S' := [.int (zi 1), .ref x]) rfl ?_
  refine gs_put rfl (by decide) rfl sq72 tx rfl rfl rfl rfl (Or.inl rfl) (by decide) (by omega) (by omega) (fun h90 sh90 eh90 fh90 => ?_)
  have pr91 := gSW.pt fh90 tx (by decide) pr87
  have pr92 := gRn.pt fh90 tx (by decide) pr88
  have pr93 := gRn.pt fh90 tx (by decide) pr89
  have pr94 := gRn.pt fh90 tx (by decide) yq72_0
  have s95 := (fh90 x 0 (fun q => absurd q.2 (by decide))).trans s73
  have s96 := (fh90 sk 0 (fun q => absurd q.2 (by decide))).trans s74
  have s97 := (fh90 sk 1 (fun q => absurd q.2 (by decide))).trans s75
  have s98 := (fh90 sk 2 (fun q => absurd q.2 (by decide))).trans s76
  have s99 := (fh90 sk 3 (fun q => absurd q.2 (by decide))).trans s77
  have s100 := (fh90 x 5 (fun q => absurd q.2 (by decide))).trans s78
  have s101 := (fh90 x 6 (fun q => absurd q.2 (by decide))).trans s79
  have s102 := (fh90 x 7 (fun q => absurd q.2 (by decide))).trans s80
  have s103 := (fh90 x 8 (fun q => absurd q.2 (by decide))).trans s81
  have s104 := (fh90 x 9 (fun q => absurd q.2 (by decide))).trans s82
  have s105 := (fh90 x 10 (fun q => absurd q.2 (by decide))).trans s83
  have s106 := (fh90 x 4 (fun q => absurd q.2 (by decide))).trans s84
  have s107 := (fh90 c47 0 (fun q => absurd (((tc47).symm.trans (congrArg ty q.1)).trans tx) (by decide))).trans s85
  have s108 := (fh90 c47 1 (fun q => absurd (((tc47).symm.trans (congrArg ty q.1)).trans tx) (by decide))).trans s86
  refine gz_s 1 (pc' := 45) (L' := [some (.ref x), some (.int (zi f)), some (.int (zi t)), some (.int (zi hi)), some (.int (zi lo))]) (S' := [.ref x]) rfl ?_
  refine gz_call rfl (by decide) rfl (by decide) (by decide) (gcal_of rfl rfl rfl (Nat.le_of_ble_eq_true rfl) (gJ.recv (G := gGG) sh90.1 tx rfl rfl)) (cn_putBlocks _ sh90.1 x tx 1 eh90 ⟨by omega, by omega⟩ f s102 ⟨by omega, by omega⟩ t s103 ⟨by omega, by omega⟩ hi s104 ⟨by omega, by omega⟩ lo s105 ⟨by omega, by omega⟩ bs s100 ⟨by omega, by omega⟩ iv s101 ⟨by omega, by omega⟩ cf e1w e1w (by omega) (by omega) uq pr92 pr93 pr94 (e1w_B.mono (by omega)) (e1w_B.mono (by omega))) (fun q109 _ wq109 => ?_)
  obtain ⟨pq109, oq109, hq109⟩ := q109
  obtain ⟨xq109, gq109, yq109_0, yq109_1⟩ := wq109
  refine ⟨_, gq109, ?_⟩
  show gz gPP gGG gcn _ _ 48 [some (.ref x), some (.int (zi f)), some (.int (zi t)), some (.int (zi hi)), some (.int (zi lo))] [] hq109 _
  have sq109 : gSs rT 1027 ty [56000, 56001, 56002, 56003, 71007, 71008, 71009, 71010, 71011, 71012, 71013, 71014, 76999, 77999, 78999, 79999, 80999, 81999, 85999, 91004, 91008, 92004, 92008, 93999, 94999, 95999, 96999, 97999, 98999, 99999, 114999] h hq109 := gSs.tr sh90 xq109 (by decide)
  have s110 := (xq109.2.2.2.2.2 x 0 (by rw [tx]; decide)).trans s95
  have s111 := (xq109.2.2.2.2.2 sk 0 (by rw [tsk]; decide)).trans s96
  have s112 := (xq109.2.2.2.2.2 sk 1 (by rw [tsk]; decide)).trans s97
  have s113 := (xq109.2.2.2.2.2 sk 2 (by rw [tsk]; decide)).trans s98
  have s114 := (xq109.2.2.2.2.2 sk 3 (by rw [tsk]; decide)).trans s99
  have s115 := (xq109.2.2.2.2.2 x 5 (by rw [tx]; decide)).trans s100
  have s116 := (xq109.2.2.2.2.2 x 6 (by rw [tx]; decide)).trans s101
  have s117 := (xq109.2.2.2.2.2 x 7 (by rw [tx]; decide)).trans s102
  have s118 := (xq109.2.2.2.2.2 x 8 (by rw [tx]; decide)).trans s103
  have s119 := (xq109.2.2.2.2.2 x 9 (by rw [tx]; decide)).trans s104
  have s120 := (xq109.2.2.2.2.2 x 10 (by rw [tx]; decide)).trans s105
  have s121 := (xq109.2.2.2.2.2 x 4 (by rw [tx]; decide)).trans s106
  have s122 := (xq109.2.2.2.2.2 c47 0 (by rw [tc47]; decide)).trans s107
  have s123 := (xq109.2.2.2.2.2 c47 1 (by rw [tc47]; decide)).trans s108
  have s124 := (xq109.2.2.2.2.2 x 11 (by rw [tx]; decide)).trans eh90
  have pr125 := gSW.fr xq109.2 (by decide) pr91
  have pr126 := gRn.fr xq109.2 (by decide) pr92
  have hB9 := ecK_B (iv := iv) (fr := f) (tt := t) (hg := hi) (lw := lo) (cf := cf) (by omega) (by omega) (n := (bs).toNat) (by omega)
  have h69 := ec256 (iv := iv) (fr := f) (tt := t) (hg := hi) (lw := lo) (cf := cf) (w0 := e1w) (w1 := e1w) (by decide) (by decide) (bs).toNat
  refine gz_s 1 (pc' := 49) (L' := [some (.ref x), some (.int (zi f)), some (.int (zi t)), some (.int (zi hi)), some (.int (zi lo))]) (S' := [.ref x]) rfl ?_
  refine gs_gtk rfl (by decide) rfl sq109.1 tx rfl rfl s117 ?_
  by_cases hc127 : ¬ (f : Int) = 0
  · refine gy_ifT (pc' := 67) rfl (by decide) (by decide) (by omega) hc127 ?_
    refine gz_s 1 (pc' := 68) (L' := [some (.ref x), some (.int (zi f)), some (.int (zi t)), some (.int (zi hi)), some (.int (zi lo))]) (S' := [.ref x]) rfl ?_
    refine gs_gtk rfl (by decide) rfl sq109.1 tx rfl rfl s118 ?_
    by_cases hc128 : (t : Int) ≤ 0
    · refine gy_ifT (pc' := 79) rfl (by decide) (by decide) (by omega) hc128 ?_
      refine gz_s 1 (pc' := 80) (L' := [some (.ref x), some (.int (zi f)), some (.int (zi t)), some (.int (zi hi)), some (.int (zi lo))]) (S' := [.ref x]) rfl ?_
      have k129 := sq109.2.1
      have k129b := sq109.2.2.1
      have hl130 : hq109.2.2.2.1 bt = h.2.2.2.1 bt := congrFun sq109.2.2.2.2.1 bt
      have hl131 : hq109.2.2.2.1 bt = h.2.2.2.1 bt := congrFun sq109.2.2.2.2.1 bt
      refine gz_call rfl (by decide) rfl (by decide) (by decide) (gcal_of rfl rfl rfl (Nat.le_of_ble_eq_true rfl) (gJ.recv (G := gGG) sq109.1 tx rfl rfl)) (cw_putScanHead _ sq109.1 x tx sk s110 tsk bt s111 tbt c0 s112 ⟨by omega, by omega⟩ f s117 ⟨by omega, by omega⟩ t s118 ⟨by omega, by omega⟩ hi s119 ⟨by omega, by omega⟩ lo s120 ⟨by omega, by omega⟩ sg (by omega) (by omega) uq pr125 hyok) (fun q132 _ wq132 => ?_)
      obtain ⟨pq132, oq132, hq132⟩ := q132
      obtain ⟨tyq132, xq132, cq132_0, ttq132, fq132_0, ecq132_0, tcq132_0, gq132, efq132_0, afq132_0, bfq132_0, uq132_0, uq132_1, uq132_2, uq132_3, uq132_4, uq132_5, uq132_6, uq132_7, yq132_0, yq132_1⟩ := wq132
      dsimp only at uq132_4 uq132_5 uq132_6 uq132_7
      refine ⟨_, gq132, ?_⟩
      show gz gPP gGG gcn _ _ 83 [some (.ref x), some (.int (zi f)), some (.int (zi t)), some (.int (zi hi)), some (.int (zi lo))] [] hq132 _
      have G133 : gSg [114] [] [56000, 56001, 56002, 56003, 71007, 71008, 71009, 71010, 71011, 71012, 71013, 71014, 76999, 77999, 78999, 79999, 80999, 81999, 85999, 91004, 91008, 92004, 92008, 93999, 94999, 95999, 96999, 97999, 98999, 99999, 114999] ty h tyq132 hq132 := gSg.tr (gSg.ss G0 sq109 (by decide)) xq132 (by decide) (by decide) (fun x hx => by cases hx)
      have t134 : tyq132 x = 71 := gSg.typ xq132 sq109.1 tx rfl
      have t135 : tyq132 sk = 56 := gSg.typ xq132 sq109.1 tsk rfl
      have t136 : tyq132 bt = 114 := gSg.typ xq132 sq109.1 tbt rfl
      have hl137 : hq132.2.2.2.1 bt = hq109.2.2.2.1 bt := gSg.len xq132 sq109.1 tbt rfl
      have t138 : tyq132 c47 = 75 := gSg.typ xq132 sq109.1 tc47 rfl
      have t139 : tyq132 c51 = 91 := gSg.typ xq132 sq109.1 tc51 rfl
      have t140 : tyq132 c71 = 92 := gSg.typ xq132 sq109.1 tc71 rfl
      have s141 := gSg.at xq132 sq109.1 tx rfl (by decide) s110
      have s142 := gSg.at xq132 sq109.1 tsk rfl (by decide) s113
      have s143 := gSg.at xq132 sq109.1 tsk rfl (by decide) s114
      have s144 := gSg.at xq132 sq109.1 tx rfl (by decide) s115
      have s145 := gSg.at xq132 sq109.1 tx rfl (by decide) s116
      have s146 := gSg.at xq132 sq109.1 tx rfl (by decide) s117
      have s147 := gSg.at xq132 sq109.1 tx rfl (by decide) s118
      have s148 := gSg.at xq132 sq109.1 tx rfl (by decide) s119
      have s149 := gSg.at xq132 sq109.1 tx rfl (by decide) s120
      have s150 := gSg.at xq132 sq109.1 tx rfl (by decide) s121
      have s151 := gSg.at xq132 sq109.1 tc47 rfl (by decide) s122
      have s152 := gSg.at xq132 sq109.1 tc47 rfl (by decide) s123
      have s153 := gSg.at xq132 sq109.1 tx rfl (by decide) s124
      have pr154 := gRn.gr xq132 sq109.1 rfl (by decide) (by decide) pr126
      have pr155 := gRn.gr xq132 sq109.1 rfl (by decide) (by decide) yq109_0
      have pr156 := gRn.gr xq132 sq109.1 rfl (by decide) (by decide) yq109_1
      have uq157 := gSg.uq xq132 uq (by decide)
      have sS158 : gSs rT 1027 tyq132 [56000, 56001, 56002, 56003, 71007, 71008, 71009, 71010, 71011, 71012, 71013, 71014, 76999, 77999, 78999, 79999, 80999, 81999, 85999, 91004, 91008, 92004, 92008, 93999, 94999, 95999, 96999, 97999, 98999, 99999, 114999] hq132 hq132 := gSs.rf xq132.1
      refine gz_s 2 (pc' := 85) (L' := [some (.ref x), some (.int (zi f)), some (.int (zi t)), some (.int (zi hi)), some (.int (zi lo))]) (S' := [.int (zi 0), .ref x]) rfl ?_
      refine gs_put rfl (by decide) rfl sS158 t134 rfl rfl rfl rfl (Or.inl rfl) (by decide) (by omega) (by omega) (fun h159 sh159 eh159 fh159 => ?_)
      have pr160 := gRn.pt fh159 t134 (by decide) pr154
      have pr161 := gRn.pt fh159 t134 (by decide) pr155
      have pr162 := gRn.pt fh159 t134 (by decide) pr156
      have pr163 := gSW.pt fh159 t134 (by decide) yq132_0
      have s164 := (fh159 x 0 (fun q => absurd q.2 (by decide))).trans s141
      have s165 := (fh159 sk 2 (fun q => absurd q.2 (by decide))).trans s142
      have s166 := (fh159 sk 3 (fun q => absurd q.2 (by decide))).trans s143
      have s167 := (fh159 x 5 (fun q => absurd q.2 (by decide))).trans s144
      have s168 := (fh159 x 6 (fun q => absurd q.2 (by decide))).trans s145
      have s169 := (fh159 x 7 (fun q => absurd q.2 (by decide))).trans s146
      have s170 := (fh159 x 8 (fun q => absurd q.2 (by decide))).trans s147
      have s171 := (fh159 x 9 (fun q => absurd q.2 (by decide))).trans s148
      have s172 := (fh159 x 10 (fun q => absurd q.2 (by decide))).trans s149
      have s173 := (fh159 x 4 (fun q => absurd q.2 (by decide))).trans s150
      have s174 := (fh159 c47 0 (fun q => absurd (((t138).symm.trans (congrArg tyq132 q.1)).trans t134) (by decide))).trans s151
      have s175 := (fh159 c47 1 (fun q => absurd (((t138).symm.trans (congrArg tyq132 q.1)).trans t134) (by decide))).trans s152
      have s176 := (fh159 sk 0 (fun q => absurd q.2 (by decide))).trans ecq132_0
      have s177 := (fh159 sk 1 (fun q => absurd q.2 (by decide))).trans efq132_0
      have htb178 : gTab (f = 0 ∧ hi = 0) tyq132 95 96 (ekc (ehN (ecK iv f t hi lo cf e1w e1w (bs).toNat).2.1)) h159 := fun w => absurd w (by omega)
      have htb179 : gTab (0 < t) tyq132 78 79 (ekc (ehN (ecK iv f t hi lo cf e1w e1w (bs).toNat).2.2)) h159 := fun w => absurd w (by omega)
      refine gz_s 1 (pc' := 89) (L' := [some (.ref x), some (.int (zi f)), some (.int (zi t)), some (.int (zi hi)), some (.int (zi lo))]) (S' := [.ref x]) rfl ?_
      have k180 := sh159.2.1
      have k180b := sh159.2.2.1
      have hl181 : h159.2.2.2.1 bt = hq132.2.2.2.1 bt := congrFun sh159.2.2.2.2.1 bt
      have hl182 : h159.2.2.2.1 cq132_0 = hq132.2.2.2.1 cq132_0 := congrFun sh159.2.2.2.2.1 cq132_0
      have hl183 : h159.2.2.2.1 cq132_0 = hq132.2.2.2.1 cq132_0 := congrFun sh159.2.2.2.2.1 cq132_0
      refine gz_call rfl (by decide) rfl (by decide) (by decide) (gcal_of rfl rfl rfl (Nat.le_of_ble_eq_true rfl) (gJ.recv (G := gGG) sh159.1 t134 rfl rfl)) (cw_putBlocks _ sh159.1 x t134 sk s164 t135 cq132_0 s176 tcq132_0 fq132_0 s177 ⟨by omega, by omega⟩ u0 s165 ⟨by omega, by omega⟩ h0 s166 ⟨by omega, by omega⟩ 0 eh159 ⟨by omega, by omega⟩ f s169 ⟨by omega, by omega⟩ t s170 ⟨by omega, by omega⟩ hi s171 ⟨by omega, by omega⟩ lo s172 ⟨by omega, by omega⟩ bs s167 ⟨by omega, by omega⟩ iv s168 ⟨by omega, by omega⟩ cf (eSh f t hi lo sg) (ekc (ehN (ecK iv f t hi lo cf e1w e1w (bs).toNat).2.1)) (ekc (ehN (ecK iv f t hi lo cf e1w e1w (bs).toNat).2.2)) (by omega) (by omega) (by omega) (by omega) (by omega) (by omega) (by omega) uq157 pr163 yq132_1 pr160 htb178 htb179) (fun q184 _ wq184 => ?_)
      obtain ⟨pq184, oq184, hq184⟩ := q184
      obtain ⟨tyq184, xq184, cq184_0, ttq184, fq184_0, fq184_1, fq184_2, ecq184_0, tcq184_0, gq184, efq184_0, afq184_0, bfq184_0, efq184_1, afq184_1, bfq184_1, efq184_2, afq184_2, bfq184_2, uq184_0, uq184_1, uq184_2, uq184_3, uq184_4, uq184_5, uq184_6, uq184_7, uq184_8, yq184_0, yq184_1⟩ := wq184
      dsimp only at uq184_5 uq184_6 uq184_7 uq184_8
      refine ⟨_, gq184, ?_⟩
      show gz gPP gGG gcn _ _ 92 [some (.ref x), some (.int (zi f)), some (.int (zi t)), some (.int (zi hi)), some (.int (zi lo))] [] hq184 _
      have G185 : gSg [114] [] [56000, 56001, 56002, 56003, 71007, 71008, 71009, 71010, 71011, 71012, 71013, 71014, 76999, 77999, 78999, 79999, 80999, 81999, 85999, 91004, 91008, 92004, 92008, 93999, 94999, 95999, 96999, 97999, 98999, 99999, 114999] ty h tyq184 hq184 := gSg.tr (gSg.ss G133 sh159 (by decide)) xq184 (by decide) (by decide) (fun x hx => by cases hx)
      have t186 : tyq184 x = 71 := gSg.typ xq184 sh159.1 t134 rfl
      have t187 : tyq184 sk = 56 := gSg.typ xq184 sh159.1 t135 rfl
      have t188 : tyq184 bt = 114 := gSg.typ xq184 sh159.1 t136 rfl
      have hl189 : hq184.2.2.2.1 bt = h159.2.2.2.1 bt := gSg.len xq184 sh159.1 t136 rfl
      have t190 : tyq184 c47 = 75 := gSg.typ xq184 sh159.1 t138 rfl
      have t191 : tyq184 c51 = 91 := gSg.typ xq184 sh159.1 t139 rfl
      have t192 : tyq184 c71 = 92 := gSg.typ xq184 sh159.1 t140 rfl
      have t193 : tyq184 cq132_0 = 114 := gSg.typ xq184 sh159.1 tcq132_0 rfl
      have hl194 : hq184.2.2.2.1 cq132_0 = h159.2.2.2.1 cq132_0 := gSg.len xq184 sh159.1 tcq132_0 rfl
      have s195 := gSg.at xq184 sh159.1 t134 rfl (by decide) s164
      have s196 := gSg.at xq184 sh159.1 t134 rfl (by decide) s167
      have s197 := gSg.at xq184 sh159.1 t134 rfl (by decide) s168
      have s198 := gSg.at xq184 sh159.1 t134 rfl (by decide) s169
      have s199 := gSg.at xq184 sh159.1 t134 rfl (by decide) s170
      have s200 := gSg.at xq184 sh159.1 t134 rfl (by decide) s171
      have s201 := gSg.at xq184 sh159.1 t134 rfl (by decide) s172
      have s202 := gSg.at xq184 sh159.1 t134 rfl (by decide) s173
      have s203 := gSg.at xq184 sh159.1 t138 rfl (by decide) s174
      have s204 := gSg.at xq184 sh159.1 t138 rfl (by decide) s175
      have s205 := gSg.at xq184 sh159.1 t134 rfl (by decide) eh159
      have pr206 := gRn.gr xq184 sh159.1 rfl (by decide) (by decide) pr160
      have pr207 := gRn.gr xq184 sh159.1 rfl (by decide) (by decide) pr161
      have pr208 := gRn.gr xq184 sh159.1 rfl (by decide) (by decide) pr162
      have pr209 := gTab.gr xq184 sh159.1 rfl rfl (fun _ => rfl) (fun _ => rfl) (by decide) (by decide) (by decide) (by decide) htb178
      have pr210 := gTab.gr xq184 sh159.1 rfl rfl (fun _ => rfl) (fun _ => rfl) (by decide) (by decide) (by decide) (by decide) htb179
      have uq211 := gSg.uq xq184 uq157 (by decide)
      have sS212 : gSs rT 1027 tyq184 [56000, 56001, 56002, 56003, 71007, 71008, 71009, 71010, 71011, 71012, 71013, 71014, 76999, 77999, 78999, 79999, 80999, 81999, 85999, 91004, 91008, 92004, 92008, 93999, 94999, 95999, 96999, 97999, 98999, 99999, 114999] hq184 hq184 := gSs.rf xq184.1
      refine gz_s 1 (pc' := 93) (L' := [some (.ref x), some (.int (zi f)), some (.int (zi t)), some (.int (zi hi)), some (.int (zi lo))]) (S' := [.ref x]) rfl ?_
      refine gs_gtk rfl (by decide) rfl sS212.1 t186 rfl rfl s195 ?_
      have hl213 : hq184.2.2.2.1 cq184_0 = hq184.2.2.2.1 cq184_0 := congrFun sS212.2.2.2.2.1 cq184_0
      refine gz_call rfl (by decide) rfl (by decide) (by decide) (gcal_of rfl rfl rfl (Nat.le_of_ble_eq_true rfl) (gJ.recv (G := gGG) sS212.1 t187 rfl rfl)) (cw_fillByte _ sS212.1 sk t187 cq184_0 ecq184_0 tcq184_0 fq184_0 efq184_0 ⟨by omega, by omega⟩ fq184_1 efq184_1 ⟨by omega, by omega⟩ fq184_2 efq184_2 ⟨by omega, by omega⟩ ((ewK (ekc (ehN (ecK iv f t hi lo cf e1w e1w (bs).toNat).2.1)) (ekc (ehN (ecK iv f t hi lo cf e1w e1w (bs).toNat).2.2)) iv f t hi lo cf (eSh f t hi lo sg) (bs).toNat).2) (by omega) (by omega) (by omega) (by omega) (by omega) uq211 yq184_0 yq184_1) (fun q214 _ wq214 => ?_)
      obtain ⟨pq214, oq214, hq214⟩ := q214
      obtain ⟨tyq214, xq214, cq214_0, ttq214, fq214_0, fq214_1, fq214_2, ecq214_0, tcq214_0, gq214, efq214_0, afq214_0, bfq214_0, efq214_1, afq214_1, bfq214_1, efq214_2, afq214_2, bfq214_2, uq214_0, uq214_1, uq214_2, uq214_3, uq214_4, uq214_5, uq214_6, uq214_7, uq214_8, yq214_0, yq214_1⟩ := wq214
      dsimp only at uq214_5 uq214_6 uq214_7 uq214_8
      refine ⟨_, gq214, ?_⟩
      show gz gPP gGG gcn _ _ 99 [some (.ref x), some (.int (zi f)), some (.int (zi t)), some (.int (zi hi)), some (.int (zi lo))] [] hq214 _
      have G215 : gSg [114] [] [56000, 56001, 56002, 56003, 71007, 71008, 71009, 71010, 71011, 71012, 71013, 71014, 76999, 77999, 78999, 79999, 80999, 81999, 85999, 91004, 91008, 92004, 92008, 93999, 94999, 95999, 96999, 97999, 98999, 99999, 114999] ty h tyq214 hq214 := gSg.tr (gSg.ss G185 sS212 (by decide)) xq214 (by decide) (by decide) (fun x hx => by cases hx)
      have t216 : tyq214 x = 71 := gSg.typ xq214 sS212.1 t186 rfl
      have t217 : tyq214 sk = 56 := gSg.typ xq214 sS212.1 t187 rfl
      have t218 : tyq214 bt = 114 := gSg.typ xq214 sS212.1 t188 rfl
      have hl219 : hq214.2.2.2.1 bt = hq184.2.2.2.1 bt := gSg.len xq214 sS212.1 t188 rfl
      have t220 : tyq214 c47 = 75 := gSg.typ xq214 sS212.1 t190 rfl
      have t221 : tyq214 c51 = 91 := gSg.typ xq214 sS212.1 t191 rfl
      have t222 : tyq214 c71 = 92 := gSg.typ xq214 sS212.1 t192 rfl
      have t223 : tyq214 cq132_0 = 114 := gSg.typ xq214 sS212.1 t193 rfl
      have hl224 : hq214.2.2.2.1 cq132_0 = hq184.2.2.2.1 cq132_0 := gSg.len xq214 sS212.1 t193 rfl
      have t225 : tyq214 cq184_0 = 114 := gSg.typ xq214 sS212.1 tcq184_0 rfl
      have hl226 : hq214.2.2.2.1 cq184_0 = hq184.2.2.2.1 cq184_0 := gSg.len xq214 sS212.1 tcq184_0 rfl
      have s227 := gSg.at xq214 sS212.1 t186 rfl (by decide) s195
      have s228 := gSg.at xq214 sS212.1 t186 rfl (by decide) s196
      have s229 := gSg.at xq214 sS212.1 t186 rfl (by decide) s197
      have s230 := gSg.at xq214 sS212.1 t186 rfl (by decide) s198
      have s231 := gSg.at xq214 sS212.1 t186 rfl (by decide) s199
      have s232 := gSg.at xq214 sS212.1 t186 rfl (by decide) s200
      have s233 := gSg.at xq214 sS212.1 t186 rfl (by decide) s201
      have s234 := gSg.at xq214 sS212.1 t186 rfl (by decide) s202
      have s235 := gSg.at xq214 sS212.1 t190 rfl (by decide) s203
      have s236 := gSg.at xq214 sS212.1 t190 rfl (by decide) s204
      have s237 := gSg.at xq214 sS212.1 t186 rfl (by decide) s205
      have pr238 := gRn.gr xq214 sS212.1 rfl (by decide) (by decide) pr206
      have pr239 := gRn.gr xq214 sS212.1 rfl (by decide) (by decide) pr207
      have pr240 := gRn.gr xq214 sS212.1 rfl (by decide) (by decide) pr208
      have pr241 := gTab.gr xq214 sS212.1 rfl rfl (fun _ => rfl) (fun _ => rfl) (by decide) (by decide) (by decide) (by decide) pr209
      have pr242 := gTab.gr xq214 sS212.1 rfl rfl (fun _ => rfl) (fun _ => rfl) (by decide) (by decide) (by decide) (by decide) pr210
      have uq243 := gSg.uq xq214 uq211 (by decide)
      have sS244 : gSs rT 1027 tyq214 [56000, 56001, 56002, 56003, 71007, 71008, 71009, 71010, 71011, 71012, 71013, 71014, 76999, 77999, 78999, 79999, 80999, 81999, 85999, 91004, 91008, 92004, 92008, 93999, 94999, 95999, 96999, 97999, 98999, 99999, 114999] hq214 hq214 := gSs.rf xq214.1
      have hk245 : eSc iv f t hi lo cf (bs).toNat sg = eeF ((ewK (ekc (ehN (ecK iv f t hi lo cf e1w e1w (bs).toNat).2.1)) (ekc (ehN (ecK iv f t hi lo cf e1w e1w (bs).toNat).2.2)) iv f t hi lo cf (eSh f t hi lo sg) (bs).toNat).2) := by unfold eSc; rw [if_neg (by omega), if_neg (by omega)]
      have hk245_1 : (eSc iv f t hi lo cf (bs).toNat sg).1 = (eeF ((ewK (ekc (ehN (ecK iv f t hi lo cf e1w e1w (bs).toNat).2.1)) (ekc (ehN (ecK iv f t hi lo cf e1w e1w (bs).toNat).2.2)) iv f t hi lo cf (eSh f t hi lo sg) (bs).toNat).2)).1 := by rw [hk245]
      have hk245_21 : (eSc iv f t hi lo cf (bs).toNat sg).2.1 = (eeF ((ewK (ekc (ehN (ecK iv f t hi lo cf e1w e1w (bs).toNat).2.1)) (ekc (ehN (ecK iv f t hi lo cf e1w e1w (bs).toNat).2.2)) iv f t hi lo cf (eSh f t hi lo sg) (bs).toNat).2)).2.1 := by rw [hk245]
      have hk245_221 : (eSc iv f t hi lo cf (bs).toNat sg).2.2.1 = (eeF ((ewK (ekc (ehN (ecK iv f t hi lo cf e1w e1w (bs).toNat).2.1)) (ekc (ehN (ecK iv f t hi lo cf e1w e1w (bs).toNat).2.2)) iv f t hi lo cf (eSh f t hi lo sg) (bs).toNat).2)).2.2.1 := by rw [hk245]
      have hsw246 : gSW tyq214 cq214_0 (eSc iv f t hi lo cf (bs).toNat sg) hq214 := by rw [hk245]; exact yq214_0
      have hok247 : eeOk (eSc iv f t hi lo cf (bs).toNat sg) := by rw [hk245]; exact yq214_1
      have hoc248 := hok247.cur
      have hl249 : 1024 ≤ hq214.2.2.2.1 bt ∧ hq214.2.2.2.1 bt ≤ 1000000 := gJ.rowl (G := gGG) sS244.1 t218 rfl
      have hl250 : 1024 ≤ hq214.2.2.2.1 cq132_0 ∧ hq214.2.2.2.1 cq132_0 ≤ 1000000 := gJ.rowl (G := gGG) sS244.1 t223 rfl
      have hl251 : 1024 ≤ hq214.2.2.2.1 cq184_0 ∧ hq214.2.2.2.1 cq184_0 ≤ 1000000 := gJ.rowl (G := gGG) sS244.1 t225 rfl
      have hl252 : 1024 ≤ hq214.2.2.2.1 cq214_0 ∧ hq214.2.2.2.1 cq214_0 ≤ 1000000 := gJ.rowl (G := gGG) sS244.1 tcq214_0 rfl
      have G253 : gSg [114] [] [56000, 56001, 56002, 56003, 71007, 71008, 71009, 71010, 71011, 71012, 71013, 71014, 76999, 77999, 78999, 79999, 80999, 81999, 85999, 91004, 91008, 92004, 92008, 93999, 94999, 95999, 96999, 97999, 98999, 99999, 114999] ty h tyq214 hq214 := gSg.ss G215 sS244 (by decide)
      exact gz_end (I := .return_) (len := 1) rfl (Or.inl rfl) ⟨tyq214, G253, cq214_0, trivial, fq214_0, fq214_1, fq214_2, ecq214_0, tcq214_0, rfl, efq214_0, (by omega), (by omega), efq214_1, (by omega), (by omega), efq214_2, (by omega), (by omega), (by omega), (by omega), (by omega), (by omega), (by omega), (by dsimp only; omega), (by dsimp only; omega), (by dsimp only; omega), (by dsimp only; omega), hsw246, hok247⟩
    · refine gy_ifF rfl (by decide) (by decide) (by omega) hc128 ?_
      refine gz_s 2 (pc' := 76) (L' := [some (.ref x), some (.int (zi f)), some (.int (zi t)), some (.int (zi hi)), some (.int (zi lo))]) (S' := [.int (zi 1), .ref x]) rfl ?_
      have k254 := sq109.2.1
      have k254b := sq109.2.2.1
      have hl255 : hq109.2.2.2.1 bt = h.2.2.2.1 bt := congrFun sq109.2.2.2.2.1 bt
      have hl256 : hq109.2.2.2.1 bt = h.2.2.2.1 bt := congrFun sq109.2.2.2.2.1 bt
      refine gz_call rfl (by decide) rfl (by decide) (by decide) (gcal_of rfl rfl rfl (Nat.le_of_ble_eq_true rfl) (gJ.recv (G := gGG) sq109.1 tx rfl rfl)) (cw_putCodes1 _ sq109.1 x tx 1 ⟨by omega, by omega⟩ sk s110 tsk bt s111 tbt c0 s112 ⟨by omega, by omega⟩ ((ecK iv f t hi lo cf e1w e1w (bs).toNat).2.2) sg (by omega) (by omega) uq pr125 hyok yq109_1 hB9.2 h69.2) (fun q257 _ wq257 => ?_)
      obtain ⟨pq257, oq257, hq257⟩ := q257
      obtain ⟨tyq257, xq257, cq257_0, ttq257, fq257_0, ecq257_0, tcq257_0, gq257, efq257_0, afq257_0, bfq257_0, uq257_0, uq257_1, uq257_2, uq257_3, uq257_4, uq257_5, uq257_6, uq257_7, uq257_8, yq257_0, yq257_1, yq257_2⟩ := wq257
      dsimp only at uq257_5 uq257_6 uq257_7 uq257_8
      refine ⟨_, gq257, ?_⟩
      show gz gPP gGG gcn _ _ 79 [some (.ref x), some (.int (zi f)), some (.int (zi t)), some (.int (zi hi)), some (.int (zi lo))] [] hq257 _
      have G258 : gSg [114] [] [56000, 56001, 56002, 56003, 71007, 71008, 71009, 71010, 71011, 71012, 71013, 71014, 76999, 77999, 78999, 79999, 80999, 81999, 85999, 91004, 91008, 92004, 92008, 93999, 94999, 95999, 96999, 97999, 98999, 99999, 114999] ty h tyq257 hq257 := gSg.tr (gSg.ss G0 sq109 (by decide)) xq257 (by decide) (by decide) (fun x hx => by cases hx)
      have t259 : tyq257 x = 71 := gSg.typ xq257 sq109.1 tx rfl
      have t260 : tyq257 sk = 56 := gSg.typ xq257 sq109.1 tsk rfl
      have t261 : tyq257 bt = 114 := gSg.typ xq257 sq109.1 tbt rfl
      have hl262 : hq257.2.2.2.1 bt = hq109.2.2.2.1 bt := gSg.len xq257 sq109.1 tbt rfl
      have t263 : tyq257 c47 = 75 := gSg.typ xq257 sq109.1 tc47 rfl
      have t264 : tyq257 c51 = 91 := gSg.typ xq257 sq109.1 tc51 rfl
      have t265 : tyq257 c71 = 92 := gSg.typ xq257 sq109.1 tc71 rfl
      have s266 := gSg.at xq257 sq109.1 tx rfl (by decide) s110
      have s267 := gSg.at xq257 sq109.1 tsk rfl (by decide) s113
      have s268 := gSg.at xq257 sq109.1 tsk rfl (by decide) s114
      have s269 := gSg.at xq257 sq109.1 tx rfl (by decide) s115
      have s270 := gSg.at xq257 sq109.1 tx rfl (by decide) s116
      have s271 := gSg.at xq257 sq109.1 tx rfl (by decide) s117
      have s272 := gSg.at xq257 sq109.1 tx rfl (by decide) s118
      have s273 := gSg.at xq257 sq109.1 tx rfl (by decide) s119
      have s274 := gSg.at xq257 sq109.1 tx rfl (by decide) s120
      have s275 := gSg.at xq257 sq109.1 tx rfl (by decide) s121
      have s276 := gSg.at xq257 sq109.1 tc47 rfl (by decide) s122
      have s277 := gSg.at xq257 sq109.1 tc47 rfl (by decide) s123
      have s278 := gSg.at xq257 sq109.1 tx rfl (by decide) s124
      have pr279 := gRn.gr xq257 sq109.1 rfl (by decide) (by decide) pr126
      have pr280 := gRn.gr xq257 sq109.1 rfl (by decide) (by decide) yq109_0
      have uq281 := gSg.uq xq257 uq (by decide)
      have sS282 : gSs rT 1027 tyq257 [56000, 56001, 56002, 56003, 71007, 71008, 71009, 71010, 71011, 71012, 71013, 71014, 76999, 77999, 78999, 79999, 80999, 81999, 85999, 91004, 91008, 92004, 92008, 93999, 94999, 95999, 96999, 97999, 98999, 99999, 114999] hq257 hq257 := gSs.rf xq257.1
      refine gz_s 1 (pc' := 80) (L' := [some (.ref x), some (.int (zi f)), some (.int (zi t)), some (.int (zi hi)), some (.int (zi lo))]) (S' := [.ref x]) rfl ?_
      have hl283 : hq257.2.2.2.1 cq257_0 = hq257.2.2.2.1 cq257_0 := congrFun sS282.2.2.2.2.1 cq257_0
      refine gz_call rfl (by decide) rfl (by decide) (by decide) (gcal_of rfl rfl rfl (Nat.le_of_ble_eq_true rfl) (gJ.recv (G := gGG) sS282.1 t259 rfl rfl)) (cw_putScanHead _ sS282.1 x t259 sk s266 t260 cq257_0 ecq257_0 tcq257_0 fq257_0 efq257_0 ⟨by omega, by omega⟩ f s271 ⟨by omega, by omega⟩ t s272 ⟨by omega, by omega⟩ hi s273 ⟨by omega, by omega⟩ lo s274 ⟨by omega, by omega⟩ (ekP 1 (ehN ((ecK iv f t hi lo cf e1w e1w (bs).toNat).2.2)) sg) (by omega) (by omega) uq281 yq257_0 yq257_1) (fun q284 _ wq284 => ?_)
      obtain ⟨pq284, oq284, hq284⟩ := q284
      obtain ⟨tyq284, xq284, cq284_0, ttq284, fq284_0, ecq284_0, tcq284_0, gq284, efq284_0, afq284_0, bfq284_0, uq284_0, uq284_1, uq284_2, uq284_3, uq284_4, uq284_5, uq284_6, uq284_7, yq284_0, yq284_1⟩ := wq284
      dsimp only at uq284_4 uq284_5 uq284_6 uq284_7
      refine ⟨_, gq284, ?_⟩
      show gz gPP gGG gcn _ _ 83 [some (.ref x), some (.int (zi f)), some (.int (zi t)), some (.int (zi hi)), some (.int (zi lo))] [] hq284 _
      have G285 : gSg [114] [] [56000, 56001, 56002, 56003, 71007, 71008, 71009, 71010, 71011, 71012, 71013, 71014, 76999, 77999, 78999, 79999, 80999, 81999, 85999, 91004, 91008, 92004, 92008, 93999, 94999, 95999, 96999, 97999, 98999, 99999, 114999] ty h tyq284 hq284 := gSg.tr (gSg.ss G258 sS282 (by decide)) xq284 (by decide) (by decide) (fun x hx => by cases hx)
      have t286 : tyq284 x = 71 := gSg.typ xq284 sS282.1 t259 rfl
      have t287 : tyq284 sk = 56 := gSg.typ xq284 sS282.1 t260 rfl
      have t288 : tyq284 bt = 114 := gSg.typ xq284 sS282.1 t261 rfl
      have hl289 : hq284.2.2.2.1 bt = hq257.2.2.2.1 bt := gSg.len xq284 sS282.1 t261 rfl
      have t290 : tyq284 c47 = 75 := gSg.typ xq284 sS282.1 t263 rfl
      have t291 : tyq284 c51 = 91 := gSg.typ xq284 sS282.1 t264 rfl
      have t292 : tyq284 c71 = 92 := gSg.typ xq284 sS282.1 t265 rfl
      have t293 : tyq284 cq257_0 = 114 := gSg.typ xq284 sS282.1 tcq257_0 rfl
      have hl294 : hq284.2.2.2.1 cq257_0 = hq257.2.2.2.1 cq257_0 := gSg.len xq284 sS282.1 tcq257_0 rfl
      have s295 := gSg.at xq284 sS282.1 t259 rfl (by decide) s266
      have s296 := gSg.at xq284 sS282.1 t260 rfl (by decide) s267
      have s297 := gSg.at xq284 sS282.1 t260 rfl (by decide) s268
      have s298 := gSg.at xq284 sS282.1 t259 rfl (by decide) s269
      have s299 := gSg.at xq284 sS282.1 t259 rfl (by decide) s270
      have s300 := gSg.at xq284 sS282.1 t259 rfl (by decide) s271
      have s301 := gSg.at xq284 sS282.1 t259 rfl (by decide) s272
      have s302 := gSg.at xq284 sS282.1 t259 rfl (by decide) s273
      have s303 := gSg.at xq284 sS282.1 t259 rfl (by decide) s274
      have s304 := gSg.at xq284 sS282.1 t259 rfl (by decide) s275
      have s305 := gSg.at xq284 sS282.1 t263 rfl (by decide) s276
      have s306 := gSg.at xq284 sS282.1 t263 rfl (by decide) s277
      have s307 := gSg.at xq284 sS282.1 t259 rfl (by decide) s278
      have pr308 := gRn.gr xq284 sS282.1 rfl (by decide) (by decide) pr279
      have pr309 := gRn.gr xq284 sS282.1 rfl (by decide) (by decide) pr280
      have pr310 := gTab.gr xq284 sS282.1 rfl rfl (fun _ => rfl) (fun _ => rfl) (by decide) (by decide) (by decide) (by decide) yq257_2
      have uq311 := gSg.uq xq284 uq281 (by decide)
      have sS312 : gSs rT 1027 tyq284 [56000, 56001, 56002, 56003, 71007, 71008, 71009, 71010, 71011, 71012, 71013, 71014, 76999, 77999, 78999, 79999, 80999, 81999, 85999, 91004, 91008, 92004, 92008, 93999, 94999, 95999, 96999, 97999, 98999, 99999, 114999] hq284 hq284 := gSs.rf xq284.1
      refine gz_s 2 (pc' := 85) (L' := [some (.ref x), some (.int (zi f)), some (.int (zi t)), some (.int (zi hi)), some (.int (zi lo))]) (S' := [.int (zi 0), .ref x]) rfl ?_
      refine gs_put rfl (by decide) rfl sS312 t286 rfl rfl rfl rfl (Or.inl rfl) (by decide) (by omega) (by omega) (fun h313 sh313 eh313 fh313 => ?_)
      have pr314 := gRn.pt fh313 t286 (by decide) pr308
      have pr315 := gRn.pt fh313 t286 (by decide) pr309
      have pr316 := gTab.pt fh313 t286 (by decide) (by decide) pr310
      have pr317 := gSW.pt fh313 t286 (by decide) yq284_0
      have s318 := (fh313 x 0 (fun q => absurd q.2 (by decide))).trans s295
      have s319 := (fh313 sk 2 (fun q => absurd q.2 (by decide))).trans s296
      have s320 := (fh313 sk 3 (fun q => absurd q.2 (by decide))).trans s297
      have s321 := (fh313 x 5 (fun q => absurd q.2 (by decide))).trans s298
      have s322 := (fh313 x 6 (fun q => absurd q.2 (by decide))).trans s299
      have s323 := (fh313 x 7 (fun q => absurd q.2 (by decide))).trans s300
      have s324 := (fh313 x 8 (fun q => absurd q.2 (by decide))).trans s301
      have s325 := (fh313 x 9 (fun q => absurd q.2 (by decide))).trans s302
      have s326 := (fh313 x 10 (fun q => absurd q.2 (by decide))).trans s303
      have s327 := (fh313 x 4 (fun q => absurd q.2 (by decide))).trans s304
      have s328 := (fh313 c47 0 (fun q => absurd (((t290).symm.trans (congrArg tyq284 q.1)).trans t286) (by decide))).trans s305
      have s329 := (fh313 c47 1 (fun q => absurd (((t290).symm.trans (congrArg tyq284 q.1)).trans t286) (by decide))).trans s306
      have s330 := (fh313 sk 0 (fun q => absurd q.2 (by decide))).trans ecq284_0
      have s331 := (fh313 sk 1 (fun q => absurd q.2 (by decide))).trans efq284_0
      have htb332 : gTab (f = 0 ∧ hi = 0) tyq284 95 96 (ekc (ehN (ecK iv f t hi lo cf e1w e1w (bs).toNat).2.1)) h313 := fun w => absurd w (by omega)
      have htb333 : gTab (0 < t) tyq284 78 79 (ekc (ehN (ecK iv f t hi lo cf e1w e1w (bs).toNat).2.2)) h313 := gTab.imp (fun _ => trivial) pr316
      refine gz_s 1 (pc' := 89) (L' := [some (.ref x), some (.int (zi f)), some (.int (zi t)), some (.int (zi hi)), some (.int (zi lo))]) (S' := [.ref x]) rfl ?_
      have k334 := sh313.2.1
      have k334b := sh313.2.2.1
      have hl335 : h313.2.2.2.1 bt = hq284.2.2.2.1 bt := congrFun sh313.2.2.2.2.1 bt
      have hl336 : h313.2.2.2.1 cq257_0 = hq284.2.2.2.1 cq257_0 := congrFun sh313.2.2.2.2.1 cq257_0
      have hl337 : h313.2.2.2.1 cq284_0 = hq284.2.2.2.1 cq284_0 := congrFun sh313.2.2.2.2.1 cq284_0
      have hl338 : h313.2.2.2.1 cq284_0 = hq284.2.2.2.1 cq284_0 := congrFun sh313.2.2.2.2.1 cq284_0
      refine gz_call rfl (by decide) rfl (by decide) (by decide) (gcal_of rfl rfl rfl (Nat.le_of_ble_eq_true rfl) (gJ.recv (G := gGG) sh313.1 t286 rfl rfl)) (cw_putBlocks _ sh313.1 x t286 sk s318 t287 cq284_0 s330 tcq284_0 fq284_0 s331 ⟨by omega, by omega⟩ u0 s319 ⟨by omega, by omega⟩ h0 s320 ⟨by omega, by omega⟩ 0 eh313 ⟨by omega, by omega⟩ f s323 ⟨by omega, by omega⟩ t s324 ⟨by omega, by omega⟩ hi s325 ⟨by omega, by omega⟩ lo s326 ⟨by omega, by omega⟩ bs s321 ⟨by omega, by omega⟩ iv s322 ⟨by omega, by omega⟩ cf (eSh f t hi lo (ekP 1 (ehN ((ecK iv f t hi lo cf e1w e1w (bs).toNat).2.2)) sg)) (ekc (ehN (ecK iv f t hi lo cf e1w e1w (bs).toNat).2.1)) (ekc (ehN (ecK iv f t hi lo cf e1w e1w (bs).toNat).2.2)) (by omega) (by omega) (by omega) (by omega) (by omega) (by omega) (by omega) uq311 pr317 yq284_1 pr314 htb332 htb333) (fun q339 _ wq339 => ?_)
      obtain ⟨pq339, oq339, hq339⟩ := q339
      obtain ⟨tyq339, xq339, cq339_0, ttq339, fq339_0, fq339_1, fq339_2, ecq339_0, tcq339_0, gq339, efq339_0, afq339_0, bfq339_0, efq339_1, afq339_1, bfq339_1, efq339_2, afq339_2, bfq339_2, uq339_0, uq339_1, uq339_2, uq339_3, uq339_4, uq339_5, uq339_6, uq339_7, uq339_8, yq339_0, yq339_1⟩ := wq339
      dsimp only at uq339_5 uq339_6 uq339_7 uq339_8
      refine ⟨_, gq339, ?_⟩
      show gz gPP gGG gcn _ _ 92 [some (.ref x), some (.int (zi f)), some (.int (zi t)), some (.int (zi hi)), some (.int (zi lo))] [] hq339 _
      have G340 : gSg [114] [] [56000, 56001, 56002, 56003, 71007, 71008, 71009, 71010, 71011, 71012, 71013, 71014, 76999, 77999, 78999, 79999, 80999, 81999, 85999, 91004, 91008, 92004, 92008, 93999, 94999, 95999, 96999, 97999, 98999, 99999, 114999] ty h tyq339 hq339 := gSg.tr (gSg.ss G285 sh313 (by decide)) xq339 (by decide) (by decide) (fun x hx => by cases hx)
      have t341 : tyq339 x = 71 := gSg.typ xq339 sh313.1 t286 rfl
      have t342 : tyq339 sk = 56 := gSg.typ xq339 sh313.1 t287 rfl
      have t343 : tyq339 bt = 114 := gSg.typ xq339 sh313.1 t288 rfl
      have hl344 : hq339.2.2.2.1 bt = h313.2.2.2.1 bt := gSg.len xq339 sh313.1 t288 rfl
      have t345 : tyq339 c47 = 75 := gSg.typ xq339 sh313.1 t290 rfl
      have t346 : tyq339 c51 = 91 := gSg.typ xq339 sh313.1 t291 rfl
      have t347 : tyq339 c71 = 92 := gSg.typ xq339 sh313.1 t292 rfl
      have t348 : tyq339 cq257_0 = 114 := gSg.typ xq339 sh313.1 t293 rfl
      have hl349 : hq339.2.2.2.1 cq257_0 = h313.2.2.2.1 cq257_0 := gSg.len xq339 sh313.1 t293 rfl
      have t350 : tyq339 cq284_0 = 114 := gSg.typ xq339 sh313.1 tcq284_0 rfl
      have hl351 : hq339.2.2.2.1 cq284_0 = h313.2.2.2.1 cq284_0 := gSg.len xq339 sh313.1 tcq284_0 rfl
      have s352 := gSg.at xq339 sh313.1 t286 rfl (by decide) s318
      have s353 := gSg.at xq339 sh313.1 t286 rfl (by decide) s321
      have s354 := gSg.at xq339 sh313.1 t286 rfl (by decide) s322
      have s355 := gSg.at xq339 sh313.1 t286 rfl (by decide) s323
      have s356 := gSg.at xq339 sh313.1 t286 rfl (by decide) s324
      have s357 := gSg.at xq339 sh313.1 t286 rfl (by decide) s325
      have s358 := gSg.at xq339 sh313.1 t286 rfl (by decide) s326
      have s359 := gSg.at xq339 sh313.1 t286 rfl (by decide) s327
      have s360 := gSg.at xq339 sh313.1 t290 rfl (by decide) s328
      have s361 := gSg.at xq339 sh313.1 t290 rfl (by decide) s329
      have s362 := gSg.at xq339 sh313.1 t286 rfl (by decide) eh313
      have pr363 := gRn.gr xq339 sh313.1 rfl (by decide) (by decide) pr314
      have pr364 := gRn.gr xq339 sh313.1 rfl (by decide) (by decide) pr315
      have pr365 := gTab.gr xq339 sh313.1 rfl rfl (fun _ => rfl) (fun _ => rfl) (by decide) (by decide) (by decide) (by decide) htb333
      have pr366 := gTab.gr xq339 sh313.1 rfl rfl (fun _ => rfl) (fun _ => rfl) (by decide) (by decide) (by decide) (by decide) htb332
      have uq367 := gSg.uq xq339 uq311 (by decide)
      have sS368 : gSs rT 1027 tyq339 [56000, 56001, 56002, 56003, 71007, 71008, 71009, 71010, 71011, 71012, 71013, 71014, 76999, 77999, 78999, 79999, 80999, 81999, 85999, 91004, 91008, 92004, 92008, 93999, 94999, 95999, 96999, 97999, 98999, 99999, 114999] hq339 hq339 := gSs.rf xq339.1
      refine gz_s 1 (pc' := 93) (L' := [some (.ref x), some (.int (zi f)), some (.int (zi t)), some (.int (zi hi)), some (.int (zi lo))]) (S' := [.ref x]) rfl ?_
      refine gs_gtk rfl (by decide) rfl sS368.1 t341 rfl rfl s352 ?_
      have hl369 : hq339.2.2.2.1 cq339_0 = hq339.2.2.2.1 cq339_0 := congrFun sS368.2.2.2.2.1 cq339_0
      refine gz_call rfl (by decide) rfl (by decide) (by decide) (gcal_of rfl rfl rfl (Nat.le_of_ble_eq_true rfl) (gJ.recv (G := gGG) sS368.1 t342 rfl rfl)) (cw_fillByte _ sS368.1 sk t342 cq339_0 ecq339_0 tcq339_0 fq339_0 efq339_0 ⟨by omega, by omega⟩ fq339_1 efq339_1 ⟨by omega, by omega⟩ fq339_2 efq339_2 ⟨by omega, by omega⟩ ((ewK (ekc (ehN (ecK iv f t hi lo cf e1w e1w (bs).toNat).2.1)) (ekc (ehN (ecK iv f t hi lo cf e1w e1w (bs).toNat).2.2)) iv f t hi lo cf (eSh f t hi lo (ekP 1 (ehN ((ecK iv f t hi lo cf e1w e1w (bs).toNat).2.2)) sg)) (bs).toNat).2) (by omega) (by omega) (by omega) (by omega) (by omega) uq367 yq339_0 yq339_1) (fun q370 _ wq370 => ?_)
      obtain ⟨pq370, oq370, hq370⟩ := q370
      obtain ⟨tyq370, xq370, cq370_0, ttq370, fq370_0, fq370_1, fq370_2, ecq370_0, tcq370_0, gq370, efq370_0, afq370_0, bfq370_0, efq370_1, afq370_1, bfq370_1, efq370_2, afq370_2, bfq370_2, uq370_0, uq370_1, uq370_2, uq370_3, uq370_4, uq370_5, uq370_6, uq370_7, uq370_8, yq370_0, yq370_1⟩ := wq370
      dsimp only at uq370_5 uq370_6 uq370_7 uq370_8
      refine ⟨_, gq370, ?_⟩
      show gz gPP gGG gcn _ _ 99 [some (.ref x), some (.int (zi f)), some (.int (zi t)), some (.int (zi hi)), some (.int (zi lo))] [] hq370 _
      have G371 : gSg [114] [] [56000, 56001, 56002, 56003, 71007, 71008, 71009, 71010, 71011, 71012, 71013, 71014, 76999, 77999, 78999, 79999, 80999, 81999, 85999, 91004, 91008, 92004, 92008, 93999, 94999, 95999, 96999, 97999, 98999, 99999, 114999] ty h tyq370 hq370 := gSg.tr (gSg.ss G340 sS368 (by decide)) xq370 (by decide) (by decide) (fun x hx => by cases hx)
      have t372 : tyq370 x = 71 := gSg.typ xq370 sS368.1 t341 rfl
      have t373 : tyq370 sk = 56 := gSg.typ xq370 sS368.1 t342 rfl
      have t374 : tyq370 bt = 114 := gSg.typ xq370 sS368.1 t343 rfl
      have hl375 : hq370.2.2.2.1 bt = hq339.2.2.2.1 bt := gSg.len xq370 sS368.1 t343 rfl
      have t376 : tyq370 c47 = 75 := gSg.typ xq370 sS368.1 t345 rfl
      have t377 : tyq370 c51 = 91 := gSg.typ xq370 sS368.1 t346 rfl
      have t378 : tyq370 c71 = 92 := gSg.typ xq370 sS368.1 t347 rfl
      have t379 : tyq370 cq257_0 = 114 := gSg.typ xq370 sS368.1 t348 rfl
      have hl380 : hq370.2.2.2.1 cq257_0 = hq339.2.2.2.1 cq257_0 := gSg.len xq370 sS368.1 t348 rfl
      have t381 : tyq370 cq284_0 = 114 := gSg.typ xq370 sS368.1 t350 rfl
      have hl382 : hq370.2.2.2.1 cq284_0 = hq339.2.2.2.1 cq284_0 := gSg.len xq370 sS368.1 t350 rfl
      have t383 : tyq370 cq339_0 = 114 := gSg.typ xq370 sS368.1 tcq339_0 rfl
      have hl384 : hq370.2.2.2.1 cq339_0 = hq339.2.2.2.1 cq339_0 := gSg.len xq370 sS368.1 tcq339_0 rfl
      have s385 := gSg.at xq370 sS368.1 t341 rfl (by decide) s352
      have s386 := gSg.at xq370 sS368.1 t341 rfl (by decide) s353
      have s387 := gSg.at xq370 sS368.1 t341 rfl (by decide) s354
      have s388 := gSg.at xq370 sS368.1 t341 rfl (by decide) s355
      have s389 := gSg.at xq370 sS368.1 t341 rfl (by decide) s356
      have s390 := gSg.at xq370 sS368.1 t341 rfl (by decide) s357
      have s391 := gSg.at xq370 sS368.1 t341 rfl (by decide) s358
      have s392 := gSg.at xq370 sS368.1 t341 rfl (by decide) s359
      have s393 := gSg.at xq370 sS368.1 t345 rfl (by decide) s360
      have s394 := gSg.at xq370 sS368.1 t345 rfl (by decide) s361
      have s395 := gSg.at xq370 sS368.1 t341 rfl (by decide) s362
      have pr396 := gRn.gr xq370 sS368.1 rfl (by decide) (by decide) pr363
      have pr397 := gRn.gr xq370 sS368.1 rfl (by decide) (by decide) pr364
      have pr398 := gTab.gr xq370 sS368.1 rfl rfl (fun _ => rfl) (fun _ => rfl) (by decide) (by decide) (by decide) (by decide) pr365
      have pr399 := gTab.gr xq370 sS368.1 rfl rfl (fun _ => rfl) (fun _ => rfl) (by decide) (by decide) (by decide) (by decide) pr366
      have uq400 := gSg.uq xq370 uq367 (by decide)
      have sS401 : gSs rT 1027 tyq370 [56000, 56001, 56002, 56003, 71007, 71008, 71009, 71010, 71011, 71012, 71013, 71014, 76999, 77999, 78999, 79999, 80999, 81999, 85999, 91004, 91008, 92004, 92008, 93999, 94999, 95999, 96999, 97999, 98999, 99999, 114999] hq370 hq370 := gSs.rf xq370.1
      have hk402 : eSc iv f t hi lo cf (bs).toNat sg = eeF ((ewK (ekc (ehN (ecK iv f t hi lo cf e1w e1w (bs).toNat).2.1)) (ekc (ehN (ecK iv f t hi lo cf e1w e1w (bs).toNat).2.2)) iv f t hi lo cf (eSh f t hi lo (ekP 1 (ehN ((ecK iv f t hi lo cf e1w e1w (bs).toNat).2.2)) sg)) (bs).toNat).2) := by unfold eSc; rw [if_pos (by omega), if_neg (by omega)]
      have hk402_1 : (eSc iv f t hi lo cf (bs).toNat sg).1 = (eeF ((ewK (ekc (ehN (ecK iv f t hi lo cf e1w e1w (bs).toNat).2.1)) (ekc (ehN (ecK iv f t hi lo cf e1w e1w (bs).toNat).2.2)) iv f t hi lo cf (eSh f t hi lo (ekP 1 (ehN ((ecK iv f t hi lo cf e1w e1w (bs).toNat).2.2)) sg)) (bs).toNat).2)).1 := by rw [hk402]
      have hk402_21 : (eSc iv f t hi lo cf (bs).toNat sg).2.1 = (eeF ((ewK (ekc (ehN (ecK iv f t hi lo cf e1w e1w (bs).toNat).2.1)) (ekc (ehN (ecK iv f t hi lo cf e1w e1w (bs).toNat).2.2)) iv f t hi lo cf (eSh f t hi lo (ekP 1 (ehN ((ecK iv f t hi lo cf e1w e1w (bs).toNat).2.2)) sg)) (bs).toNat).2)).2.1 := by rw [hk402]
      have hk402_221 : (eSc iv f t hi lo cf (bs).toNat sg).2.2.1 = (eeF ((ewK (ekc (ehN (ecK iv f t hi lo cf e1w e1w (bs).toNat).2.1)) (ekc (ehN (ecK iv f t hi lo cf e1w e1w (bs).toNat).2.2)) iv f t hi lo cf (eSh f t hi lo (ekP 1 (ehN ((ecK iv f t hi lo cf e1w e1w (bs).toNat).2.2)) sg)) (bs).toNat).2)).2.2.1 := by rw [hk402]
      have hsw403 : gSW tyq370 cq370_0 (eSc iv f t hi lo cf (bs).toNat sg) hq370 := by rw [hk402]; exact yq370_0
      have hok404 : eeOk (eSc iv f t hi lo cf (bs).toNat sg) := by rw [hk402]; exact yq370_1
      have hoc405 := hok404.cur
      have hl406 : 1024 ≤ hq370.2.2.2.1 bt ∧ hq370.2.2.2.1 bt ≤ 1000000 := gJ.rowl (G := gGG) sS401.1 t374 rfl
      have hl407 : 1024 ≤ hq370.2.2.2.1 cq257_0 ∧ hq370.2.2.2.1 cq257_0 ≤ 1000000 := gJ.rowl (G := gGG) sS401.1 t379 rfl
      have hl408 : 1024 ≤ hq370.2.2.2.1 cq284_0 ∧ hq370.2.2.2.1 cq284_0 ≤ 1000000 := gJ.rowl (G := gGG) sS401.1 t381 rfl
      have hl409 : 1024 ≤ hq370.2.2.2.1 cq339_0 ∧ hq370.2.2.2.1 cq339_0 ≤ 1000000 := gJ.rowl (G := gGG) sS401.1 t383 rfl
      have hl410 : 1024 ≤ hq370.2.2.2.1 cq370_0 ∧ hq370.2.2.2.1 cq370_0 ≤ 1000000 := gJ.rowl (G := gGG) sS401.1 tcq370_0 rfl
      have G411 : gSg [114] [] [56000, 56001, 56002, 56003, 71007, 71008, 71009, 71010, 71011, 71012, 71013, 71014, 76999, 77999, 78999, 79999, 80999, 81999, 85999, 91004, 91008, 92004, 92008, 93999, 94999, 95999, 96999, 97999, 98999, 99999, 114999] ty h tyq370 hq370 := gSg.ss G371 sS401 (by decide)
      exact gz_end (I := .return_) (len := 1) rfl (Or.inl rfl) ⟨tyq370, G411, cq370_0, trivial, fq370_0, fq370_1, fq370_2, ecq370_0, tcq370_0, rfl, efq370_0, (by omega), (by omega), efq370_1, (by omega), (by omega), efq370_2, (by omega), (by omega), (by omega), (by omega), (by omega), (by omega), (by omega), (by dsimp only; omega), (by dsimp only; omega), (by dsimp only; omega), (by dsimp only; omega), hsw403, hok404⟩
  · refine gy_ifF rfl (by decide) (by decide) (by omega) hc127 ?_
    refine gz_s 1 (pc' := 56) (L' := [some (.ref x), some (.int (zi f)), some (.int (zi t)), some (.int (zi hi)), some (.int (zi lo))]) (S' := [.ref x]) rfl ?_
    refine gs_gtk rfl (by decide) rfl sq109.1 tx rfl rfl s119 ?_
    by_cases hc412 : ¬ (hi : Int) = 0
    · refine gy_ifT (pc' := 67) rfl (by decide) (by decide) (by omega) hc412 ?_
      refine gz_s 1 (pc' := 68) (L' := [some (.ref x), some (.int (zi f)), some (.int (zi t)), some (.int (zi hi)), some (.int (zi lo))]) (S' := [.ref x]) rfl ?_
      refine gs_gtk rfl (by decide) rfl sq109.1 tx rfl rfl s118 ?_
      by_cases hc413 : (t : Int) ≤ 0
      · refine gy_ifT (pc' := 79) rfl (by decide) (by decide) (by omega) hc413 ?_
        refine gz_s 1 (pc' := 80) (L' := [some (.ref x), some (.int (zi f)), some (.int (zi t)), some (.int (zi hi)), some (.int (zi lo))]) (S' := [.ref x]) rfl ?_
        have k414 := sq109.2.1
        have k414b := sq109.2.2.1
        have hl415 : hq109.2.2.2.1 bt = h.2.2.2.1 bt := congrFun sq109.2.2.2.2.1 bt
        have hl416 : hq109.2.2.2.1 bt = h.2.2.2.1 bt := congrFun sq109.2.2.2.2.1 bt
        refine gz_call rfl (by decide) rfl (by decide) (by decide) (gcal_of rfl rfl rfl (Nat.le_of_ble_eq_true rfl) (gJ.recv (G := gGG) sq109.1 tx rfl rfl)) (cw_putScanHead _ sq109.1 x tx sk s110 tsk bt s111 tbt c0 s112 ⟨by omega, by omega⟩ f s117 ⟨by omega, by omega⟩ t s118 ⟨by omega, by omega⟩ hi s119 ⟨by omega, by omega⟩ lo s120 ⟨by omega, by omega⟩ sg (by omega) (by omega) uq pr125 hyok) (fun q417 _ wq417 => ?_)
        obtain ⟨pq417, oq417, hq417⟩ := q417
        obtain ⟨tyq417, xq417, cq417_0, ttq417, fq417_0, ecq417_0, tcq417_0, gq417, efq417_0, afq417_0, bfq417_0, uq417_0, uq417_1, uq417_2, uq417_3, uq417_4, uq417_5, uq417_6, uq417_7, yq417_0, yq417_1⟩ := wq417
        dsimp only at uq417_4 uq417_5 uq417_6 uq417_7
        refine ⟨_, gq417, ?_⟩
        show gz gPP gGG gcn _ _ 83 [some (.ref x), some (.int (zi f)), some (.int (zi t)), some (.int (zi hi)), some (.int (zi lo))] [] hq417 _
        have G418 : gSg [114] [] [56000, 56001, 56002, 56003, 71007, 71008, 71009, 71010, 71011, 71012, 71013, 71014, 76999, 77999, 78999, 79999, 80999, 81999, 85999, 91004, 91008, 92004, 92008, 93999, 94999, 95999, 96999, 97999, 98999, 99999, 114999] ty h tyq417 hq417 := gSg.tr (gSg.ss G0 sq109 (by decide)) xq417 (by decide) (by decide) (fun x hx => by cases hx)
        have t419 : tyq417 x = 71 := gSg.typ xq417 sq109.1 tx rfl
        have t420 : tyq417 sk = 56 := gSg.typ xq417 sq109.1 tsk rfl
        have t421 : tyq417 bt = 114 := gSg.typ xq417 sq109.1 tbt rfl
        have hl422 : hq417.2.2.2.1 bt = hq109.2.2.2.1 bt := gSg.len xq417 sq109.1 tbt rfl
        have t423 : tyq417 c47 = 75 := gSg.typ xq417 sq109.1 tc47 rfl
        have t424 : tyq417 c51 = 91 := gSg.typ xq417 sq109.1 tc51 rfl
        have t425 : tyq417 c71 = 92 := gSg.typ xq417 sq109.1 tc71 rfl
        have s426 := gSg.at xq417 sq109.1 tx rfl (by decide) s110
        have s427 := gSg.at xq417 sq109.1 tsk rfl (by decide) s113
        have s428 := gSg.at xq417 sq109.1 tsk rfl (by decide) s114
        have s429 := gSg.at xq417 sq109.1 tx rfl (by decide) s115
        have s430 := gSg.at xq417 sq109.1 tx rfl (by decide) s116
        have s431 := gSg.at xq417 sq109.1 tx rfl (by decide) s117
        have s432 := gSg.at xq417 sq109.1 tx rfl (by decide) s118
        have s433 := gSg.at xq417 sq109.1 tx rfl (by decide) s119
        have s434 := gSg.at xq417 sq109.1 tx rfl (by decide) s120
        have s435 := gSg.at xq417 sq109.1 tx rfl (by decide) s121
        have s436 := gSg.at xq417 sq109.1 tc47 rfl (by decide) s122
        have s437 := gSg.at xq417 sq109.1 tc47 rfl (by decide) s123
        have s438 := gSg.at xq417 sq109.1 tx rfl (by decide) s124
        have pr439 := gRn.gr xq417 sq109.1 rfl (by decide) (by decide) pr126
        have pr440 := gRn.gr xq417 sq109.1 rfl (by decide) (by decide) yq109_0
        have pr441 := gRn.gr xq417 sq109.1 rfl (by decide) (by decide) yq109_1
        have uq442 := gSg.uq xq417 uq (by decide)
        have sS443 : gSs rT 1027 tyq417 [56000, 56001, 56002, 56003, 71007, 71008, 71009, 71010, 71011, 71012, 71013, 71014, 76999, 77999, 78999, 79999, 80999, 81999, 85999, 91004, 91008, 92004, 92008, 93999, 94999, 95999, 96999, 97999, 98999, 99999, 114999] hq417 hq417 := gSs.rf xq417.1
        refine gz_s 2 (pc' := 85) (L' := [some (.ref x), some (.int (zi f)), some (.int (zi t)), some (.int (zi hi)), some (.int (zi lo))]) (S' := [.int (zi 0), .ref x]) rfl ?_
        refine gs_put rfl (by decide) rfl sS443 t419 rfl rfl rfl rfl (Or.inl rfl) (by decide) (by omega) (by omega) (fun h444 sh444 eh444 fh444 => ?_)
        have pr445 := gRn.pt fh444 t419 (by decide) pr439
        have pr446 := gRn.pt fh444 t419 (by decide) pr440
        have pr447 := gRn.pt fh444 t419 (by decide) pr441
        have pr448 := gSW.pt fh444 t419 (by decide) yq417_0
        have s449 := (fh444 x 0 (fun q => absurd q.2 (by decide))).trans s426
        have s450 := (fh444 sk 2 (fun q => absurd q.2 (by decide))).trans s427
        have s451 := (fh444 sk 3 (fun q => absurd q.2 (by decide))).trans s428
        have s452 := (fh444 x 5 (fun q => absurd q.2 (by decide))).trans s429
        have s453 := (fh444 x 6 (fun q => absurd q.2 (by decide))).trans s430
        have s454 := (fh444 x 7 (fun q => absurd q.2 (by decide))).trans s431
        have s455 := (fh444 x 8 (fun q => absurd q.2 (by decide))).trans s432
        have s456 := (fh444 x 9 (fun q => absurd q.2 (by decide))).trans s433
        have s457 := (fh444 x 10 (fun q => absurd q.2 (by decide))).trans s434
        have s458 := (fh444 x 4 (fun q => absurd q.2 (by decide))).trans s435
        have s459 := (fh444 c47 0 (fun q => absurd (((t423).symm.trans (congrArg tyq417 q.1)).trans t419) (by decide))).trans s436
        have s460 := (fh444 c47 1 (fun q => absurd (((t423).symm.trans (congrArg tyq417 q.1)).trans t419) (by decide))).trans s437
        have s461 := (fh444 sk 0 (fun q => absurd q.2 (by decide))).trans ecq417_0
        have s462 := (fh444 sk 1 (fun q => absurd q.2 (by decide))).trans efq417_0
        have htb463 : gTab (f = 0 ∧ hi = 0) tyq417 95 96 (ekc (ehN (ecK iv f t hi lo cf e1w e1w (bs).toNat).2.1)) h444 := fun w => absurd w (by omega)
        have htb464 : gTab (0 < t) tyq417 78 79 (ekc (ehN (ecK iv f t hi lo cf e1w e1w (bs).toNat).2.2)) h444 := fun w => absurd w (by omega)
        refine gz_s 1 (pc' := 89) (L' := [some (.ref x), some (.int (zi f)), some (.int (zi t)), some (.int (zi hi)), some (.int (zi lo))]) (S' := [.ref x]) rfl ?_
        have k465 := sh444.2.1
        have k465b := sh444.2.2.1
        have hl466 : h444.2.2.2.1 bt = hq417.2.2.2.1 bt := congrFun sh444.2.2.2.2.1 bt
        have hl467 : h444.2.2.2.1 cq417_0 = hq417.2.2.2.1 cq417_0 := congrFun sh444.2.2.2.2.1 cq417_0
        have hl468 : h444.2.2.2.1 cq417_0 = hq417.2.2.2.1 cq417_0 := congrFun sh444.2.2.2.2.1 cq417_0
        refine gz_call rfl (by decide) rfl (by decide) (by decide) (gcal_of rfl rfl rfl (Nat.le_of_ble_eq_true rfl) (gJ.recv (G := gGG) sh444.1 t419 rfl rfl)) (cw_putBlocks _ sh444.1 x t419 sk s449 t420 cq417_0 s461 tcq417_0 fq417_0 s462 ⟨by omega, by omega⟩ u0 s450 ⟨by omega, by omega⟩ h0 s451 ⟨by omega, by omega⟩ 0 eh444 ⟨by omega, by omega⟩ f s454 ⟨by omega, by omega⟩ t s455 ⟨by omega, by omega⟩ hi s456 ⟨by omega, by omega⟩ lo s457 ⟨by omega, by omega⟩ bs s452 ⟨by omega, by omega⟩ iv s453 ⟨by omega, by omega⟩ cf (eSh f t hi lo sg) (ekc (ehN (ecK iv f t hi lo cf e1w e1w (bs).toNat).2.1)) (ekc (ehN (ecK iv f t hi lo cf e1w e1w (bs).toNat).2.2)) (by omega) (by omega) (by omega) (by omega) (by omega) (by omega) (by omega) uq442 pr448 yq417_1 pr445 htb463 htb464) (fun q469 _ wq469 => ?_)
        obtain ⟨pq469, oq469, hq469⟩ := q469
        obtain ⟨tyq469, xq469, cq469_0, ttq469, fq469_0, fq469_1, fq469_2, ecq469_0, tcq469_0, gq469, efq469_0, afq469_0, bfq469_0, efq469_1, afq469_1, bfq469_1, efq469_2, afq469_2, bfq469_2, uq469_0, uq469_1, uq469_2, uq469_3, uq469_4, uq469_5, uq469_6, uq469_7, uq469_8, yq469_0, yq469_1⟩ := wq469
        dsimp only at uq469_5 uq469_6 uq469_7 uq469_8
        refine ⟨_, gq469, ?_⟩
        show gz gPP gGG gcn _ _ 92 [some (.ref x), some (.int (zi f)), some (.int (zi t)), some (.int (zi hi)), some (.int (zi lo))] [] hq469 _
        have G470 : gSg [114] [] [56000, 56001, 56002, 56003, 71007, 71008, 71009, 71010, 71011, 71012, 71013, 71014, 76999, 77999, 78999, 79999, 80999, 81999, 85999, 91004, 91008, 92004, 92008, 93999, 94999, 95999, 96999, 97999, 98999, 99999, 114999] ty h tyq469 hq469 := gSg.tr (gSg.ss G418 sh444 (by decide)) xq469 (by decide) (by decide) (fun x hx => by cases hx)
        have t471 : tyq469 x = 71 := gSg.typ xq469 sh444.1 t419 rfl
        have t472 : tyq469 sk = 56 := gSg.typ xq469 sh444.1 t420 rfl
        have t473 : tyq469 bt = 114 := gSg.typ xq469 sh444.1 t421 rfl
        have hl474 : hq469.2.2.2.1 bt = h444.2.2.2.1 bt := gSg.len xq469 sh444.1 t421 rfl
        have t475 : tyq469 c47 = 75 := gSg.typ xq469 sh444.1 t423 rfl
        have t476 : tyq469 c51 = 91 := gSg.typ xq469 sh444.1 t424 rfl
        have t477 : tyq469 c71 = 92 := gSg.typ xq469 sh444.1 t425 rfl
        have t478 : tyq469 cq417_0 = 114 := gSg.typ xq469 sh444.1 tcq417_0 rfl
        have hl479 : hq469.2.2.2.1 cq417_0 = h444.2.2.2.1 cq417_0 := gSg.len xq469 sh444.1 tcq417_0 rfl
        have s480 := gSg.at xq469 sh444.1 t419 rfl (by decide) s449
        have s481 := gSg.at xq469 sh444.1 t419 rfl (by decide) s452
        have s482 := gSg.at xq469 sh444.1 t419 rfl (by decide) s453
        have s483 := gSg.at xq469 sh444.1 t419 rfl (by decide) s454
        have s484 := gSg.at xq469 sh444.1 t419 rfl (by decide) s455
        have s485 := gSg.at xq469 sh444.1 t419 rfl (by decide) s456
        have s486 := gSg.at xq469 sh444.1 t419 rfl (by decide) s457
        have s487 := gSg.at xq469 sh444.1 t419 rfl (by decide) s458
        have s488 := gSg.at xq469 sh444.1 t423 rfl (by decide) s459
        have s489 := gSg.at xq469 sh444.1 t423 rfl (by decide) s460
        have s490 := gSg.at xq469 sh444.1 t419 rfl (by decide) eh444
        have pr491 := gRn.gr xq469 sh444.1 rfl (by decide) (by decide) pr445
        have pr492 := gRn.gr xq469 sh444.1 rfl (by decide) (by decide) pr446
        have pr493 := gRn.gr xq469 sh444.1 rfl (by decide) (by decide) pr447
        have pr494 := gTab.gr xq469 sh444.1 rfl rfl (fun _ => rfl) (fun _ => rfl) (by decide) (by decide) (by decide) (by decide) htb463
        have pr495 := gTab.gr xq469 sh444.1 rfl rfl (fun _ => rfl) (fun _ => rfl) (by decide) (by decide) (by decide) (by decide) htb464
        have uq496 := gSg.uq xq469 uq442 (by decide)
        have sS497 : gSs rT 1027 tyq469 [56000, 56001, 56002, 56003, 71007, 71008, 71009, 71010, 71011, 71012, 71013, 71014, 76999, 77999, 78999, 79999, 80999, 81999, 85999, 91004, 91008, 92004, 92008, 93999, 94999, 95999, 96999, 97999, 98999, 99999, 114999] hq469 hq469 := gSs.rf xq469.1
        refine gz_s 1 (pc' := 93) (L' := [some (.ref x), some (.int (zi f)), some (.int (zi t)), some (.int (zi hi)), some (.int (zi lo))]) (S' := [.ref x]) rfl ?_
        refine gs_gtk rfl (by decide) rfl sS497.1 t471 rfl rfl s480 ?_
        have hl498 : hq469.2.2.2.1 cq469_0 = hq469.2.2.2.1 cq469_0 := congrFun sS497.2.2.2.2.1 cq469_0
        refine gz_call rfl (by decide) rfl (by decide) (by decide) (gcal_of rfl rfl rfl (Nat.le_of_ble_eq_true rfl) (gJ.recv (G := gGG) sS497.1 t472 rfl rfl)) (cw_fillByte _ sS497.1 sk t472 cq469_0 ecq469_0 tcq469_0 fq469_0 efq469_0 ⟨by omega, by omega⟩ fq469_1 efq469_1 ⟨by omega, by omega⟩ fq469_2 efq469_2 ⟨by omega, by omega⟩ ((ewK (ekc (ehN (ecK iv f t hi lo cf e1w e1w (bs).toNat).2.1)) (ekc (ehN (ecK iv f t hi lo cf e1w e1w (bs).toNat).2.2)) iv f t hi lo cf (eSh f t hi lo sg) (bs).toNat).2) (by omega) (by omega) (by omega) (by omega) (by omega) uq496 yq469_0 yq469_1) (fun q499 _ wq499 => ?_)
        obtain ⟨pq499, oq499, hq499⟩ := q499
        obtain ⟨tyq499, xq499, cq499_0, ttq499, fq499_0, fq499_1, fq499_2, ecq499_0, tcq499_0, gq499, efq499_0, afq499_0, bfq499_0, efq499_1, afq499_1, bfq499_1, efq499_2, afq499_2, bfq499_2, uq499_0, uq499_1, uq499_2, uq499_3, uq499_4, uq499_5, uq499_6, uq499_7, uq499_8, yq499_0, yq499_1⟩ := wq499
        dsimp only at uq499_5 uq499_6 uq499_7 uq499_8
        refine ⟨_, gq499, ?_⟩
        show gz gPP gGG gcn _ _ 99 [some (.ref x), some (.int (zi f)), some (.int (zi t)), some (.int (zi hi)), some (.int (zi lo))] [] hq499 _
        have G500 : gSg [114] [] [56000, 56001, 56002, 56003, 71007, 71008, 71009, 71010, 71011, 71012, 71013, 71014, 76999, 77999, 78999, 79999, 80999, 81999, 85999, 91004, 91008, 92004, 92008, 93999, 94999, 95999, 96999, 97999, 98999, 99999, 114999] ty h tyq499 hq499 := gSg.tr (gSg.ss G470 sS497 (by decide)) xq499 (by decide) (by decide) (fun x hx => by cases hx)
        have t501 : tyq499 x = 71 := gSg.typ xq499 sS497.1 t471 rfl
        have t502 : tyq499 sk = 56 := gSg.typ xq499 sS497.1 t472 rfl
        have t503 : tyq499 bt = 114 := gSg.typ xq499 sS497.1 t473 rfl
        have hl504 : hq499.2.2.2.1 bt = hq469.2.2.2.1 bt := gSg.len xq499 sS497.1 t473 rfl
        have t505 : tyq499 c47 = 75 := gSg.typ xq499 sS497.1 t475 rfl
        have t506 : tyq499 c51 = 91 := gSg.typ xq499 sS497.1 t476 rfl
        have t507 : tyq499 c71 = 92 := gSg.typ xq499 sS497.1 t477 rfl
        have t508 : tyq499 cq417_0 = 114 := gSg.typ xq499 sS497.1 t478 rfl
        have hl509 : hq499.2.2.2.1 cq417_0 = hq469.2.2.2.1 cq417_0 := gSg.len xq499 sS497.1 t478 rfl
        have t510 : tyq499 cq469_0 = 114 := gSg.typ xq499 sS497.1 tcq469_0 rfl
        have hl511 : hq499.2.2.2.1 cq469_0 = hq469.2.2.2.1 cq469_0 := gSg.len xq499 sS497.1 tcq469_0 rfl
        have s512 := gSg.at xq499 sS497.1 t471 rfl (by decide) s480
        have s513 := gSg.at xq499 sS497.1 t471 rfl (by decide) s481
        have s514 := gSg.at xq499 sS497.1 t471 rfl (by decide) s482
        have s515 := gSg.at xq499 sS497.1 t471 rfl (by decide) s483
        have s516 := gSg.at xq499 sS497.1 t471 rfl (by decide) s484
        have s517 := gSg.at xq499 sS497.1 t471 rfl (by decide) s485
        have s518 := gSg.at xq499 sS497.1 t471 rfl (by decide) s486
        have s519 := gSg.at xq499 sS497.1 t471 rfl (by decide) s487
        have s520 := gSg.at xq499 sS497.1 t475 rfl (by decide) s488
        have s521 := gSg.at xq499 sS497.1 t475 rfl (by decide) s489
        have s522 := gSg.at xq499 sS497.1 t471 rfl (by decide) s490
        have pr523 := gRn.gr xq499 sS497.1 rfl (by decide) (by decide) pr491
        have pr524 := gRn.gr xq499 sS497.1 rfl (by decide) (by decide) pr492
        have pr525 := gRn.gr xq499 sS497.1 rfl (by decide) (by decide) pr493
        have pr526 := gTab.gr xq499 sS497.1 rfl rfl (fun _ => rfl) (fun _ => rfl) (by decide) (by decide) (by decide) (by decide) pr494
        have pr527 := gTab.gr xq499 sS497.1 rfl rfl (fun _ => rfl) (fun _ => rfl) (by decide) (by decide) (by decide) (by decide) pr495
        have uq528 := gSg.uq xq499 uq496 (by decide)
        have sS529 : gSs rT 1027 tyq499 [56000, 56001, 56002, 56003, 71007, 71008, 71009, 71010, 71011, 71012, 71013, 71014, 76999, 77999, 78999, 79999, 80999, 81999, 85999, 91004, 91008, 92004, 92008, 93999, 94999, 95999, 96999, 97999, 98999, 99999, 114999] hq499 hq499 := gSs.rf xq499.1
        have hk530 : eSc iv f t hi lo cf (bs).toNat sg = eeF ((ewK (ekc (ehN (ecK iv f t hi lo cf e1w e1w (bs).toNat).2.1)) (ekc (ehN (ecK iv f t hi lo cf e1w e1w (bs).toNat).2.2)) iv f t hi lo cf (eSh f t hi lo sg) (bs).toNat).2) := by unfold eSc; rw [if_neg (by omega), if_neg (by omega)]
        have hk530_1 : (eSc iv f t hi lo cf (bs).toNat sg).1 = (eeF ((ewK (ekc (ehN (ecK iv f t hi lo cf e1w e1w (bs).toNat).2.1)) (ekc (ehN (ecK iv f t hi lo cf e1w e1w (bs).toNat).2.2)) iv f t hi lo cf (eSh f t hi lo sg) (bs).toNat).2)).1 := by rw [hk530]
        have hk530_21 : (eSc iv f t hi lo cf (bs).toNat sg).2.1 = (eeF ((ewK (ekc (ehN (ecK iv f t hi lo cf e1w e1w (bs).toNat).2.1)) (ekc (ehN (ecK iv f t hi lo cf e1w e1w (bs).toNat).2.2)) iv f t hi lo cf (eSh f t hi lo sg) (bs).toNat).2)).2.1 := by rw [hk530]
        have hk530_221 : (eSc iv f t hi lo cf (bs).toNat sg).2.2.1 = (eeF ((ewK (ekc (ehN (ecK iv f t hi lo cf e1w e1w (bs).toNat).2.1)) (ekc (ehN (ecK iv f t hi lo cf e1w e1w (bs).toNat).2.2)) iv f t hi lo cf (eSh f t hi lo sg) (bs).toNat).2)).2.2.1 := by rw [hk530]
        have hsw531 : gSW tyq499 cq499_0 (eSc iv f t hi lo cf (bs).toNat sg) hq499 := by rw [hk530]; exact yq499_0
        have hok532 : eeOk (eSc iv f t hi lo cf (bs).toNat sg) := by rw [hk530]; exact yq499_1
        have hoc533 := hok532.cur
        have hl534 : 1024 ≤ hq499.2.2.2.1 bt ∧ hq499.2.2.2.1 bt ≤ 1000000 := gJ.rowl (G := gGG) sS529.1 t503 rfl
        have hl535 : 1024 ≤ hq499.2.2.2.1 cq417_0 ∧ hq499.2.2.2.1 cq417_0 ≤ 1000000 := gJ.rowl (G := gGG) sS529.1 t508 rfl
        have hl536 : 1024 ≤ hq499.2.2.2.1 cq469_0 ∧ hq499.2.2.2.1 cq469_0 ≤ 1000000 := gJ.rowl (G := gGG) sS529.1 t510 rfl
        have hl537 : 1024 ≤ hq499.2.2.2.1 cq499_0 ∧ hq499.2.2.2.1 cq499_0 ≤ 1000000 := gJ.rowl (G := gGG) sS529.1 tcq499_0 rfl
        have G538 : gSg [114] [] [56000, 56001, 56002, 56003, 71007, 71008, 71009, 71010, 71011, 71012, 71013, 71014, 76999, 77999, 78999, 79999, 80999, 81999, 85999, 91004, 91008, 92004, 92008, 93999, 94999, 95999, 96999, 97999, 98999, 99999, 114999] ty h tyq499 hq499 := gSg.ss G500 sS529 (by decide)
        exact gz_end (I := .return_) (len := 1) rfl (Or.inl rfl) ⟨tyq499, G538, cq499_0, trivial, fq499_0, fq499_1, fq499_2, ecq499_0, tcq499_0, rfl, efq499_0, (by omega), (by omega), efq499_1, (by omega), (by omega), efq499_2, (by omega), (by omega), (by omega), (by omega), (by omega), (by omega), (by omega), (by dsimp only; omega), (by dsimp only; omega), (by dsimp only; omega), (by dsimp only; omega), hsw531, hok532⟩
      · refine gy_ifF rfl (by decide) (by decide) (by omega) hc413 ?_
        refine gz_s 2 (pc' := 76) (L' := [some (.ref x), some (.int (zi f)), some (.int (zi t)), some (.int (zi hi)), some (.int (zi lo))]) (S' := [.int (zi 1), .ref x]) rfl ?_
        have k539 := sq109.2.1
        have k539b := sq109.2.2.1
        have hl540 : hq109.2.2.2.1 bt = h.2.2.2.1 bt := congrFun sq109.2.2.2.2.1 bt
        have hl541 : hq109.2.2.2.1 bt = h.2.2.2.1 bt := congrFun sq109.2.2.2.2.1 bt
        refine gz_call rfl (by decide) rfl (by decide) (by decide) (gcal_of rfl rfl rfl (Nat.le_of_ble_eq_true rfl) (gJ.recv (G := gGG) sq109.1 tx rfl rfl)) (cw_putCodes1 _ sq109.1 x tx 1 ⟨by omega, by omega⟩ sk s110 tsk bt s111 tbt c0 s112 ⟨by omega, by omega⟩ ((ecK iv f t hi lo cf e1w e1w (bs).toNat).2.2) sg (by omega) (by omega) uq pr125 hyok yq109_1 hB9.2 h69.2) (fun q542 _ wq542 => ?_)
        obtain ⟨pq542, oq542, hq542⟩ := q542
        obtain ⟨tyq542, xq542, cq542_0, ttq542, fq542_0, ecq542_0, tcq542_0, gq542, efq542_0, afq542_0, bfq542_0, uq542_0, uq542_1, uq542_2, uq542_3, uq542_4, uq542_5, uq542_6, uq542_7, uq542_8, yq542_0, yq542_1, yq542_2⟩ := wq542
        dsimp only at uq542_5 uq542_6 uq542_7 uq542_8
        refine ⟨_, gq542, ?_⟩
        show gz gPP gGG gcn _ _ 79 [some (.ref x), some (.int (zi f)), some (.int (zi t)), some (.int (zi hi)), some (.int (zi lo))] [] hq542 _
        have G543 : gSg [114] [] [56000, 56001, 56002, 56003, 71007, 71008, 71009, 71010, 71011, 71012, 71013, 71014, 76999, 77999, 78999, 79999, 80999, 81999, 85999, 91004, 91008, 92004, 92008, 93999, 94999, 95999, 96999, 97999, 98999, 99999, 114999] ty h tyq542 hq542 := gSg.tr (gSg.ss G0 sq109 (by decide)) xq542 (by decide) (by decide) (fun x hx => by cases hx)
        have t544 : tyq542 x = 71 := gSg.typ xq542 sq109.1 tx rfl
        have t545 : tyq542 sk = 56 := gSg.typ xq542 sq109.1 tsk rfl
        have t546 : tyq542 bt = 114 := gSg.typ xq542 sq109.1 tbt rfl
        have hl547 : hq542.2.2.2.1 bt = hq109.2.2.2.1 bt := gSg.len xq542 sq109.1 tbt rfl
        have t548 : tyq542 c47 = 75 := gSg.typ xq542 sq109.1 tc47 rfl
        have t549 : tyq542 c51 = 91 := gSg.typ xq542 sq109.1 tc51 rfl
        have t550 : tyq542 c71 = 92 := gSg.typ xq542 sq109.1 tc71 rfl
        have s551 := gSg.at xq542 sq109.1 tx rfl (by decide) s110
        have s552 := gSg.at xq542 sq109.1 tsk rfl (by decide) s113
        have s553 := gSg.at xq542 sq109.1 tsk rfl (by decide) s114
        have s554 := gSg.at xq542 sq109.1 tx rfl (by decide) s115
        have s555 := gSg.at xq542 sq109.1 tx rfl (by decide) s116
        have s556 := gSg.at xq542 sq109.1 tx rfl (by decide) s117
        have s557 := gSg.at xq542 sq109.1 tx rfl (by decide) s118
        have s558 := gSg.at xq542 sq109.1 tx rfl (by decide) s119
        have s559 := gSg.at xq542 sq109.1 tx rfl (by decide) s120
        have s560 := gSg.at xq542 sq109.1 tx rfl (by decide) s121
        have s561 := gSg.at xq542 sq109.1 tc47 rfl (by decide) s122
        have s562 := gSg.at xq542 sq109.1 tc47 rfl (by decide) s123
        have s563 := gSg.at xq542 sq109.1 tx rfl (by decide) s124
        have pr564 := gRn.gr xq542 sq109.1 rfl (by decide) (by decide) pr126
        have pr565 := gRn.gr xq542 sq109.1 rfl (by decide) (by decide) yq109_0
        have uq566 := gSg.uq xq542 uq (by decide)
        have sS567 : gSs rT 1027 tyq542 [56000, 56001, 56002, 56003, 71007, 71008, 71009, 71010, 71011, 71012, 71013, 71014, 76999, 77999, 78999, 79999, 80999, 81999, 85999, 91004, 91008, 92004, 92008, 93999, 94999, 95999, 96999, 97999, 98999, 99999, 114999] hq542 hq542 := gSs.rf xq542.1
        refine gz_s 1 (pc' := 80) (L' := [some (.ref x), some (.int (zi f)), some (.int (zi t)), some (.int (zi hi)), some (.int (zi lo))]) (S' := [.ref x]) rfl ?_
        have hl568 : hq542.2.2.2.1 cq542_0 = hq542.2.2.2.1 cq542_0 := congrFun sS567.2.2.2.2.1 cq542_0
        refine gz_call rfl (by decide) rfl (by decide) (by decide) (gcal_of rfl rfl rfl (Nat.le_of_ble_eq_true rfl) (gJ.recv (G := gGG) sS567.1 t544 rfl rfl)) (cw_putScanHead _ sS567.1 x t544 sk s551 t545 cq542_0 ecq542_0 tcq542_0 fq542_0 efq542_0 ⟨by omega, by omega⟩ f s556 ⟨by omega, by omega⟩ t s557 ⟨by omega, by omega⟩ hi s558 ⟨by omega, by omega⟩ lo s559 ⟨by omega, by omega⟩ (ekP 1 (ehN ((ecK iv f t hi lo cf e1w e1w (bs).toNat).2.2)) sg) (by omega) (by omega) uq566 yq542_0 yq542_1) (fun q569 _ wq569 => ?_)
        obtain ⟨pq569, oq569, hq569⟩ := q569
        obtain ⟨tyq569, xq569, cq569_0, ttq569, fq569_0, ecq569_0, tcq569_0, gq569, efq569_0, afq569_0, bfq569_0, uq569_0, uq569_1, uq569_2, uq569_3, uq569_4, uq569_5, uq569_6, uq569_7, yq569_0, yq569_1⟩ := wq569
        dsimp only at uq569_4 uq569_5 uq569_6 uq569_7
        refine ⟨_, gq569, ?_⟩
        show gz gPP gGG gcn _ _ 83 [some (.ref x), some (.int (zi f)), some (.int (zi t)), some (.int (zi hi)), some (.int (zi lo))] [] hq569 _
        have G570 : gSg [114] [] [56000, 56001, 56002, 56003, 71007, 71008, 71009, 71010, 71011, 71012, 71013, 71014, 76999, 77999, 78999, 79999, 80999, 81999, 85999, 91004, 91008, 92004, 92008, 93999, 94999, 95999, 96999, 97999, 98999, 99999, 114999] ty h tyq569 hq569 := gSg.tr (gSg.ss G543 sS567 (by decide)) xq569 (by decide) (by decide) (fun x hx => by cases hx)
        have t571 : tyq569 x = 71 := gSg.typ xq569 sS567.1 t544 rfl
        have t572 : tyq569 sk = 56 := gSg.typ xq569 sS567.1 t545 rfl
        have t573 : tyq569 bt = 114 := gSg.typ xq569 sS567.1 t546 rfl
        have hl574 : hq569.2.2.2.1 bt = hq542.2.2.2.1 bt := gSg.len xq569 sS567.1 t546 rfl
        have t575 : tyq569 c47 = 75 := gSg.typ xq569 sS567.1 t548 rfl
        have t576 : tyq569 c51 = 91 := gSg.typ xq569 sS567.1 t549 rfl
        have t577 : tyq569 c71 = 92 := gSg.typ xq569 sS567.1 t550 rfl
        have t578 : tyq569 cq542_0 = 114 := gSg.typ xq569 sS567.1 tcq542_0 rfl
        have hl579 : hq569.2.2.2.1 cq542_0 = hq542.2.2.2.1 cq542_0 := gSg.len xq569 sS567.1 tcq542_0 rfl
        have s580 := gSg.at xq569 sS567.1 t544 rfl (by decide) s551
        have s581 := gSg.at xq569 sS567.1 t545 rfl (by decide) s552
        have s582 := gSg.at xq569 sS567.1 t545 rfl (by decide) s553
        have s583 := gSg.at xq569 sS567.1 t544 rfl (by decide) s554
        have s584 := gSg.at xq569 sS567.1 t544 rfl (by decide) s555
        have s585 := gSg.at xq569 sS567.1 t544 rfl (by decide) s556
        have s586 := gSg.at xq569 sS567.1 t544 rfl (by decide) s557
        have s587 := gSg.at xq569 sS567.1 t544 rfl (by decide) s558
        have s588 := gSg.at xq569 sS567.1 t544 rfl (by decide) s559
        have s589 := gSg.at xq569 sS567.1 t544 rfl (by decide) s560
        have s590 := gSg.at xq569 sS567.1 t548 rfl (by decide) s561
        have s591 := gSg.at xq569 sS567.1 t548 rfl (by decide) s562
        have s592 := gSg.at xq569 sS567.1 t544 rfl (by decide) s563
        have pr593 := gRn.gr xq569 sS567.1 rfl (by decide) (by decide) pr564
        have pr594 := gRn.gr xq569 sS567.1 rfl (by decide) (by decide) pr565
        have pr595 := gTab.gr xq569 sS567.1 rfl rfl (fun _ => rfl) (fun _ => rfl) (by decide) (by decide) (by decide) (by decide) yq542_2
        have uq596 := gSg.uq xq569 uq566 (by decide)
        have sS597 : gSs rT 1027 tyq569 [56000, 56001, 56002, 56003, 71007, 71008, 71009, 71010, 71011, 71012, 71013, 71014, 76999, 77999, 78999, 79999, 80999, 81999, 85999, 91004, 91008, 92004, 92008, 93999, 94999, 95999, 96999, 97999, 98999, 99999, 114999] hq569 hq569 := gSs.rf xq569.1
        refine gz_s 2 (pc' := 85) (L' := [some (.ref x), some (.int (zi f)), some (.int (zi t)), some (.int (zi hi)), some (.int (zi lo))]) (S' := [.int (zi 0), .ref x]) rfl ?_
        refine gs_put rfl (by decide) rfl sS597 t571 rfl rfl rfl rfl (Or.inl rfl) (by decide) (by omega) (by omega) (fun h598 sh598 eh598 fh598 => ?_)
        have pr599 := gRn.pt fh598 t571 (by decide) pr593
        have pr600 := gRn.pt fh598 t571 (by decide) pr594
        have pr601 := gTab.pt fh598 t571 (by decide) (by decide) pr595
        have pr602 := gSW.pt fh598 t571 (by decide) yq569_0
        have s603 := (fh598 x 0 (fun q => absurd q.2 (by decide))).trans s580
        have s604 := (fh598 sk 2 (fun q => absurd q.2 (by decide))).trans s581
        have s605 := (fh598 sk 3 (fun q => absurd q.2 (by decide))).trans s582
        have s606 := (fh598 x 5 (fun q => absurd q.2 (by decide))).trans s583
        have s607 := (fh598 x 6 (fun q => absurd q.2 (by decide))).trans s584
        have s608 := (fh598 x 7 (fun q => absurd q.2 (by decide))).trans s585
        have s609 := (fh598 x 8 (fun q => absurd q.2 (by decide))).trans s586
        have s610 := (fh598 x 9 (fun q => absurd q.2 (by decide))).trans s587
        have s611 := (fh598 x 10 (fun q => absurd q.2 (by decide))).trans s588
        have s612 := (fh598 x 4 (fun q => absurd q.2 (by decide))).trans s589
        have s613 := (fh598 c47 0 (fun q => absurd (((t575).symm.trans (congrArg tyq569 q.1)).trans t571) (by decide))).trans s590
        have s614 := (fh598 c47 1 (fun q => absurd (((t575).symm.trans (congrArg tyq569 q.1)).trans t571) (by decide))).trans s591
        have s615 := (fh598 sk 0 (fun q => absurd q.2 (by decide))).trans ecq569_0
        have s616 := (fh598 sk 1 (fun q => absurd q.2 (by decide))).trans efq569_0
        have htb617 : gTab (f = 0 ∧ hi = 0) tyq569 95 96 (ekc (ehN (ecK iv f t hi lo cf e1w e1w (bs).toNat).2.1)) h598 := fun w => absurd w (by omega)
        have htb618 : gTab (0 < t) tyq569 78 79 (ekc (ehN (ecK iv f t hi lo cf e1w e1w (bs).toNat).2.2)) h598 := gTab.imp (fun _ => trivial) pr601
        refine gz_s 1 (pc' := 89) (L' := [some (.ref x), some (.int (zi f)), some (.int (zi t)), some (.int (zi hi)), some (.int (zi lo))]) (S' := [.ref x]) rfl ?_
        have k619 := sh598.2.1
        have k619b := sh598.2.2.1
        have hl620 : h598.2.2.2.1 bt = hq569.2.2.2.1 bt := congrFun sh598.2.2.2.2.1 bt
        have hl621 : h598.2.2.2.1 cq542_0 = hq569.2.2.2.1 cq542_0 := congrFun sh598.2.2.2.2.1 cq542_0
        have hl622 : h598.2.2.2.1 cq569_0 = hq569.2.2.2.1 cq569_0 := congrFun sh598.2.2.2.2.1 cq569_0
        have hl623 : h598.2.2.2.1 cq569_0 = hq569.2.2.2.1 cq569_0 := congrFun sh598.2.2.2.2.1 cq569_0
        refine gz_call rfl (by decide) rfl (by decide) (by decide) (gcal_of rfl rfl rfl (Nat.le_of_ble_eq_true rfl) (gJ.recv (G := gGG) sh598.1 t571 rfl rfl)) (cw_putBlocks _ sh598.1 x t571 sk s603 t572 cq569_0 s615 tcq569_0 fq569_0 s616 ⟨by omega, by omega⟩ u0 s604 ⟨by omega, by omega⟩ h0 s605 ⟨by omega, by omega⟩ 0 eh598 ⟨by omega, by omega⟩ f s608 ⟨by omega, by omega⟩ t s609 ⟨by omega, by omega⟩ hi s610 ⟨by omega, by omega⟩ lo s611 ⟨by omega, by omega⟩ bs s606 ⟨by omega, by omega⟩ iv s607 ⟨by omega, by omega⟩ cf (eSh f t hi lo (ekP 1 (ehN ((ecK iv f t hi lo cf e1w e1w (bs).toNat).2.2)) sg)) (ekc (ehN (ecK iv f t hi lo cf e1w e1w (bs).toNat).2.1)) (ekc (ehN (ecK iv f t hi lo cf e1w e1w (bs).toNat).2.2)) (by omega) (by omega) (by omega) (by omega) (by omega) (by omega) (by omega) uq596 pr602 yq569_1 pr599 htb617 htb618) (fun q624 _ wq624 => ?_)
        obtain ⟨pq624, oq624, hq624⟩ := q624
        obtain ⟨tyq624, xq624, cq624_0, ttq624, fq624_0, fq624_1, fq624_2, ecq624_0, tcq624_0, gq624, efq624_0, afq624_0, bfq624_0, efq624_1, afq624_1, bfq624_1, efq624_2, afq624_2, bfq624_2, uq624_0, uq624_1, uq624_2, uq624_3, uq624_4, uq624_5, uq624_6, uq624_7, uq624_8, yq624_0, yq624_1⟩ := wq624
        dsimp only at uq624_5 uq624_6 uq624_7 uq624_8
        refine ⟨_, gq624, ?_⟩
        show gz gPP gGG gcn _ _ 92 [some (.ref x), some (.int (zi f)), some (.int (zi t)), some (.int (zi hi)), some (.int (zi lo))] [] hq624 _
        have G625 : gSg [114] [] [56000, 56001, 56002, 56003, 71007, 71008, 71009, 71010, 71011, 71012, 71013, 71014, 76999, 77999, 78999, 79999, 80999, 81999, 85999, 91004, 91008, 92004, 92008, 93999, 94999, 95999, 96999, 97999, 98999, 99999, 114999] ty h tyq624 hq624 := gSg.tr (gSg.ss G570 sh598 (by decide)) xq624 (by decide) (by decide) (fun x hx => by cases hx)
        have t626 : tyq624 x = 71 := gSg.typ xq624 sh598.1 t571 rfl
        have t627 : tyq624 sk = 56 := gSg.typ xq624 sh598.1 t572 rfl
        have t628 : tyq624 bt = 114 := gSg.typ xq624 sh598.1 t573 rfl
        have hl629 : hq624.2.2.2.1 bt = h598.2.2.2.1 bt := gSg.len xq624 sh598.1 t573 rfl
        have t630 : tyq624 c47 = 75 := gSg.typ xq624 sh598.1 t575 rfl
        have t631 : tyq624 c51 = 91 := gSg.typ xq624 sh598.1 t576 rfl
        have t632 : tyq624 c71 = 92 := gSg.typ xq624 sh598.1 t577 rfl
        have t633 : tyq624 cq542_0 = 114 := gSg.typ xq624 sh598.1 t578 rfl
        have hl634 : hq624.2.2.2.1 cq542_0 = h598.2.2.2.1 cq542_0 := gSg.len xq624 sh598.1 t578 rfl
        have t635 : tyq624 cq569_0 = 114 := gSg.typ xq624 sh598.1 tcq569_0 rfl
        have hl636 : hq624.2.2.2.1 cq569_0 = h598.2.2.2.1 cq569_0 := gSg.len xq624 sh598.1 tcq569_0 rfl
        have s637 := gSg.at xq624 sh598.1 t571 rfl (by decide) s603
        have s638 := gSg.at xq624 sh598.1 t571 rfl (by decide) s606
        have s639 := gSg.at xq624 sh598.1 t571 rfl (by decide) s607
        have s640 := gSg.at xq624 sh598.1 t571 rfl (by decide) s608
        have s641 := gSg.at xq624 sh598.1 t571 rfl (by decide) s609
        have s642 := gSg.at xq624 sh598.1 t571 rfl (by decide) s610
        have s643 := gSg.at xq624 sh598.1 t571 rfl (by decide) s611
        have s644 := gSg.at xq624 sh598.1 t571 rfl (by decide) s612
        have s645 := gSg.at xq624 sh598.1 t575 rfl (by decide) s613
        have s646 := gSg.at xq624 sh598.1 t575 rfl (by decide) s614
        have s647 := gSg.at xq624 sh598.1 t571 rfl (by decide) eh598
        have pr648 := gRn.gr xq624 sh598.1 rfl (by decide) (by decide) pr599
        have pr649 := gRn.gr xq624 sh598.1 rfl (by decide) (by decide) pr600
        have pr650 := gTab.gr xq624 sh598.1 rfl rfl (fun _ => rfl) (fun _ => rfl) (by decide) (by decide) (by decide) (by decide) htb618
        have pr651 := gTab.gr xq624 sh598.1 rfl rfl (fun _ => rfl) (fun _ => rfl) (by decide) (by decide) (by decide) (by decide) htb617
        have uq652 := gSg.uq xq624 uq596 (by decide)
        have sS653 : gSs rT 1027 tyq624 [56000, 56001, 56002, 56003, 71007, 71008, 71009, 71010, 71011, 71012, 71013, 71014, 76999, 77999, 78999, 79999, 80999, 81999, 85999, 91004, 91008, 92004, 92008, 93999, 94999, 95999, 96999, 97999, 98999, 99999, 114999] hq624 hq624 := gSs.rf xq624.1
        refine gz_s 1 (pc' := 93) (L' := [some (.ref x), some (.int (zi f)), some (.int (zi t)), some (.int (zi hi)), some (.int (zi lo))]) (S' := [.ref x]) rfl ?_
        refine gs_gtk rfl (by decide) rfl sS653.1 t626 rfl rfl s637 ?_
        have hl654 : hq624.2.2.2.1 cq624_0 = hq624.2.2.2.1 cq624_0 := congrFun sS653.2.2.2.2.1 cq624_0
        refine gz_call rfl (by decide) rfl (by decide) (by decide) (gcal_of rfl rfl rfl (Nat.le_of_ble_eq_true rfl) (gJ.recv (G := gGG) sS653.1 t627 rfl rfl)) (cw_fillByte _ sS653.1 sk t627 cq624_0 ecq624_0 tcq624_0 fq624_0 efq624_0 ⟨by omega, by omega⟩ fq624_1 efq624_1 ⟨by omega, by omega⟩ fq624_2 efq624_2 ⟨by omega, by omega⟩ ((ewK (ekc (ehN (ecK iv f t hi lo cf e1w e1w (bs).toNat).2.1)) (ekc (ehN (ecK iv f t hi lo cf e1w e1w (bs).toNat).2.2)) iv f t hi lo cf (eSh f t hi lo (ekP 1 (ehN ((ecK iv f t hi lo cf e1w e1w (bs).toNat).2.2)) sg)) (bs).toNat).2) (by omega) (by omega) (by omega) (by omega) (by omega) uq652 yq624_0 yq624_1) (fun q655 _ wq655 => ?_)
        obtain ⟨pq655, oq655, hq655⟩ := q655
        obtain ⟨tyq655, xq655, cq655_0, ttq655, fq655_0, fq655_1, fq655_2, ecq655_0, tcq655_0, gq655, efq655_0, afq655_0, bfq655_0, efq655_1, afq655_1, bfq655_1, efq655_2, afq655_2, bfq655_2, uq655_0, uq655_1, uq655_2, uq655_3, uq655_4, uq655_5, uq655_6, uq655_7, uq655_8, yq655_0, yq655_1⟩ := wq655
        dsimp only at uq655_5 uq655_6 uq655_7 uq655_8
        refine ⟨_, gq655, ?_⟩
        show gz gPP gGG gcn _ _ 99 [some (.ref x), some (.int (zi f)), some (.int (zi t)), some (.int (zi hi)), some (.int (zi lo))] [] hq655 _
        have G656 : gSg [114] [] [56000, 56001, 56002, 56003, 71007, 71008, 71009, 71010, 71011, 71012, 71013, 71014, 76999, 77999, 78999, 79999, 80999, 81999, 85999, 91004, 91008, 92004, 92008, 93999, 94999, 95999, 96999, 97999, 98999, 99999, 114999] ty h tyq655 hq655 := gSg.tr (gSg.ss G625 sS653 (by decide)) xq655 (by decide) (by decide) (fun x hx => by cases hx)
        have t657 : tyq655 x = 71 := gSg.typ xq655 sS653.1 t626 rfl
        have t658 : tyq655 sk = 56 := gSg.typ xq655 sS653.1 t627 rfl
        have t659 : tyq655 bt = 114 := gSg.typ xq655 sS653.1 t628 rfl
        have hl660 : hq655.2.2.2.1 bt = hq624.2.2.2.1 bt := gSg.len xq655 sS653.1 t628 rfl
        have t661 : tyq655 c47 = 75 := gSg.typ xq655 sS653.1 t630 rfl
        have t662 : tyq655 c51 = 91 := gSg.typ xq655 sS653.1 t631 rfl
        have t663 : tyq655 c71 = 92 := gSg.typ xq655 sS653.1 t632 rfl
        have t664 : tyq655 cq542_0 = 114 := gSg.typ xq655 sS653.1 t633 rfl
        have hl665 : hq655.2.2.2.1 cq542_0 = hq624.2.2.2.1 cq542_0 := gSg.len xq655 sS653.1 t633 rfl
        have t666 : tyq655 cq569_0 = 114 := gSg.typ xq655 sS653.1 t635 rfl
        have hl667 : hq655.2.2.2.1 cq569_0 = hq624.2.2.2.1 cq569_0 := gSg.len xq655 sS653.1 t635 rfl
        have t668 : tyq655 cq624_0 = 114 := gSg.typ xq655 sS653.1 tcq624_0 rfl
        have hl669 : hq655.2.2.2.1 cq624_0 = hq624.2.2.2.1 cq624_0 := gSg.len xq655 sS653.1 tcq624_0 rfl
        have s670 := gSg.at xq655 sS653.1 t626 rfl (by decide) s637
        have s671 := gSg.at xq655 sS653.1 t626 rfl (by decide) s638
        have s672 := gSg.at xq655 sS653.1 t626 rfl (by decide) s639
        have s673 := gSg.at xq655 sS653.1 t626 rfl (by decide) s640
        have s674 := gSg.at xq655 sS653.1 t626 rfl (by decide) s641
        have s675 := gSg.at xq655 sS653.1 t626 rfl (by decide) s642
        have s676 := gSg.at xq655 sS653.1 t626 rfl (by decide) s643
        have s677 := gSg.at xq655 sS653.1 t626 rfl (by decide) s644
        have s678 := gSg.at xq655 sS653.1 t630 rfl (by decide) s645
        have s679 := gSg.at xq655 sS653.1 t630 rfl (by decide) s646
        have s680 := gSg.at xq655 sS653.1 t626 rfl (by decide) s647
        have pr681 := gRn.gr xq655 sS653.1 rfl (by decide) (by decide) pr648
        have pr682 := gRn.gr xq655 sS653.1 rfl (by decide) (by decide) pr649
        have pr683 := gTab.gr xq655 sS653.1 rfl rfl (fun _ => rfl) (fun _ => rfl) (by decide) (by decide) (by decide) (by decide) pr650
        have pr684 := gTab.gr xq655 sS653.1 rfl rfl (fun _ => rfl) (fun _ => rfl) (by decide) (by decide) (by decide) (by decide) pr651
        have uq685 := gSg.uq xq655 uq652 (by decide)
        have sS686 : gSs rT 1027 tyq655 [56000, 56001, 56002, 56003, 71007, 71008, 71009, 71010, 71011, 71012, 71013, 71014, 76999, 77999, 78999, 79999, 80999, 81999, 85999, 91004, 91008, 92004, 92008, 93999, 94999, 95999, 96999, 97999, 98999, 99999, 114999] hq655 hq655 := gSs.rf xq655.1
        have hk687 : eSc iv f t hi lo cf (bs).toNat sg = eeF ((ewK (ekc (ehN (ecK iv f t hi lo cf e1w e1w (bs).toNat).2.1)) (ekc (ehN (ecK iv f t hi lo cf e1w e1w (bs).toNat).2.2)) iv f t hi lo cf (eSh f t hi lo (ekP 1 (ehN ((ecK iv f t hi lo cf e1w e1w (bs).toNat).2.2)) sg)) (bs).toNat).2) := by unfold eSc; rw [if_pos (by omega), if_neg (by omega)]
        have hk687_1 : (eSc iv f t hi lo cf (bs).toNat sg).1 = (eeF ((ewK (ekc (ehN (ecK iv f t hi lo cf e1w e1w (bs).toNat).2.1)) (ekc (ehN (ecK iv f t hi lo cf e1w e1w (bs).toNat).2.2)) iv f t hi lo cf (eSh f t hi lo (ekP 1 (ehN ((ecK iv f t hi lo cf e1w e1w (bs).toNat).2.2)) sg)) (bs).toNat).2)).1 := by rw [hk687]
        have hk687_21 : (eSc iv f t hi lo cf (bs).toNat sg).2.1 = (eeF ((ewK (ekc (ehN (ecK iv f t hi lo cf e1w e1w (bs).toNat).2.1)) (ekc (ehN (ecK iv f t hi lo cf e1w e1w (bs).toNat).2.2)) iv f t hi lo cf (eSh f t hi lo (ekP 1 (ehN ((ecK iv f t hi lo cf e1w e1w (bs).toNat).2.2)) sg)) (bs).toNat).2)).2.1 := by rw [hk687]
        have hk687_221 : (eSc iv f t hi lo cf (bs).toNat sg).2.2.1 = (eeF ((ewK (ekc (ehN (ecK iv f t hi lo cf e1w e1w (bs).toNat).2.1)) (ekc (ehN (ecK iv f t hi lo cf e1w e1w (bs).toNat).2.2)) iv f t hi lo cf (eSh f t hi lo (ekP 1 (ehN ((ecK iv f t hi lo cf e1w e1w (bs).toNat).2.2)) sg)) (bs).toNat).2)).2.2.1 := by rw [hk687]
        have hsw688 : gSW tyq655 cq655_0 (eSc iv f t hi lo cf (bs).toNat sg) hq655 := by rw [hk687]; exact yq655_0
        have hok689 : eeOk (eSc iv f t hi lo cf (bs).toNat sg) := by rw [hk687]; exact yq655_1
        have hoc690 := hok689.cur
        have hl691 : 1024 ≤ hq655.2.2.2.1 bt ∧ hq655.2.2.2.1 bt ≤ 1000000 := gJ.rowl (G := gGG) sS686.1 t659 rfl
        have hl692 : 1024 ≤ hq655.2.2.2.1 cq542_0 ∧ hq655.2.2.2.1 cq542_0 ≤ 1000000 := gJ.rowl (G := gGG) sS686.1 t664 rfl
        have hl693 : 1024 ≤ hq655.2.2.2.1 cq569_0 ∧ hq655.2.2.2.1 cq569_0 ≤ 1000000 := gJ.rowl (G := gGG) sS686.1 t666 rfl
        have hl694 : 1024 ≤ hq655.2.2.2.1 cq624_0 ∧ hq655.2.2.2.1 cq624_0 ≤ 1000000 := gJ.rowl (G := gGG) sS686.1 t668 rfl
        have hl695 : 1024 ≤ hq655.2.2.2.1 cq655_0 ∧ hq655.2.2.2.1 cq655_0 ≤ 1000000 := gJ.rowl (G := gGG) sS686.1 tcq655_0 rfl
        have G696 : gSg [114] [] [56000, 56001, 56002, 56003, 71007, 71008, 71009, 71010, 71011, 71012, 71013, 71014, 76999, 77999, 78999, 79999, 80999, 81999, 85999, 91004, 91008, 92004, 92008, 93999, 94999, 95999, 96999, 97999, 98999, 99999, 114999] ty h tyq655 hq655 := gSg.ss G656 sS686 (by decide)
        exact gz_end (I := .return_) (len := 1) rfl (Or.inl rfl) ⟨tyq655, G696, cq655_0, trivial, fq655_0, fq655_1, fq655_2, ecq655_0, tcq655_0, rfl, efq655_0, (by omega), (by omega), efq655_1, (by omega), (by omega), efq655_2, (by omega), (by omega), (by omega), (by omega), (by omega), (by omega), (by omega), (by dsimp only; omega), (by dsimp only; omega), (by dsimp only; omega), (by dsimp only; omega), hsw688, hok689⟩
    · refine gy_ifF rfl (by decide) (by decide) (by omega) hc412 ?_
      refine gz_s 2 (pc' := 64) (L' := [some (.ref x), some (.int (zi f)), some (.int (zi t)), some (.int (zi hi)), some (.int (zi lo))]) (S' := [.int (zi 0), .ref x]) rfl ?_
      have k697 := sq109.2.1
      have k697b := sq109.2.2.1
      have hl698 : hq109.2.2.2.1 bt = h.2.2.2.1 bt := congrFun sq109.2.2.2.2.1 bt
      have hl699 : hq109.2.2.2.1 bt = h.2.2.2.1 bt := congrFun sq109.2.2.2.2.1 bt
      refine gz_call rfl (by decide) rfl (by decide) (by decide) (gcal_of rfl rfl rfl (Nat.le_of_ble_eq_true rfl) (gJ.recv (G := gGG) sq109.1 tx rfl rfl)) (cw_putCodes0 _ sq109.1 x tx 0 ⟨by omega, by omega⟩ sk s110 tsk bt s111 tbt c0 s112 ⟨by omega, by omega⟩ ((ecK iv f t hi lo cf e1w e1w (bs).toNat).2.1) sg (by omega) (by omega) uq pr125 hyok yq109_0 hB9.1 h69.1) (fun q700 _ wq700 => ?_)
      obtain ⟨pq700, oq700, hq700⟩ := q700
      obtain ⟨tyq700, xq700, cq700_0, ttq700, fq700_0, ecq700_0, tcq700_0, gq700, efq700_0, afq700_0, bfq700_0, uq700_0, uq700_1, uq700_2, uq700_3, uq700_4, uq700_5, uq700_6, uq700_7, uq700_8, yq700_0, yq700_1, yq700_2⟩ := wq700
      dsimp only at uq700_5 uq700_6 uq700_7 uq700_8
      refine ⟨_, gq700, ?_⟩
      show gz gPP gGG gcn _ _ 67 [some (.ref x), some (.int (zi f)), some (.int (zi t)), some (.int (zi hi)), some (.int (zi lo))] [] hq700 _
      have G701 : gSg [114] [] [56000, 56001, 56002, 56003, 71007, 71008, 71009, 71010, 71011, 71012, 71013, 71014, 76999, 77999, 78999, 79999, 80999, 81999, 85999, 91004, 91008, 92004, 92008, 93999, 94999, 95999, 96999, 97999, 98999, 99999, 114999] ty h tyq700 hq700 := gSg.tr (gSg.ss G0 sq109 (by decide)) xq700 (by decide) (by decide) (fun x hx => by cases hx)
      have t702 : tyq700 x = 71 := gSg.typ xq700 sq109.1 tx rfl
      have t703 : tyq700 sk = 56 := gSg.typ xq700 sq109.1 tsk rfl
      have t704 : tyq700 bt = 114 := gSg.typ xq700 sq109.1 tbt rfl
      have hl705 : hq700.2.2.2.1 bt = hq109.2.2.2.1 bt := gSg.len xq700 sq109.1 tbt rfl
      have t706 : tyq700 c47 = 75 := gSg.typ xq700 sq109.1 tc47 rfl
      have t707 : tyq700 c51 = 91 := gSg.typ xq700 sq109.1 tc51 rfl
      have t708 : tyq700 c71 = 92 := gSg.typ xq700 sq109.1 tc71 rfl
      have s709 := gSg.at xq700 sq109.1 tx rfl (by decide) s110
      have s710 := gSg.at xq700 sq109.1 tsk rfl (by decide) s113
      have s711 := gSg.at xq700 sq109.1 tsk rfl (by decide) s114
      have s712 := gSg.at xq700 sq109.1 tx rfl (by decide) s115
      have s713 := gSg.at xq700 sq109.1 tx rfl (by decide) s116
      have s714 := gSg.at xq700 sq109.1 tx rfl (by decide) s117
      have s715 := gSg.at xq700 sq109.1 tx rfl (by decide) s118
      have s716 := gSg.at xq700 sq109.1 tx rfl (by decide) s119
      have s717 := gSg.at xq700 sq109.1 tx rfl (by decide) s120
      have s718 := gSg.at xq700 sq109.1 tx rfl (by decide) s121
      have s719 := gSg.at xq700 sq109.1 tc47 rfl (by decide) s122
      have s720 := gSg.at xq700 sq109.1 tc47 rfl (by decide) s123
      have s721 := gSg.at xq700 sq109.1 tx rfl (by decide) s124
      have pr722 := gRn.gr xq700 sq109.1 rfl (by decide) (by decide) pr126
      have pr723 := gRn.gr xq700 sq109.1 rfl (by decide) (by decide) yq109_1
      have uq724 := gSg.uq xq700 uq (by decide)
      have sS725 : gSs rT 1027 tyq700 [56000, 56001, 56002, 56003, 71007, 71008, 71009, 71010, 71011, 71012, 71013, 71014, 76999, 77999, 78999, 79999, 80999, 81999, 85999, 91004, 91008, 92004, 92008, 93999, 94999, 95999, 96999, 97999, 98999, 99999, 114999] hq700 hq700 := gSs.rf xq700.1
      refine gz_s 1 (pc' := 68) (L' := [some (.ref x), some (.int (zi f)), some (.int (zi t)), some (.int (zi hi)), some (.int (zi lo))]) (S' := [.ref x]) rfl ?_
      refine gs_gtk rfl (by decide) rfl sS725.1 t702 rfl rfl s715 ?_
      by_cases hc726 : (t : Int) ≤ 0
      · refine gy_ifT (pc' := 79) rfl (by decide) (by decide) (by omega) hc726 ?_
        refine gz_s 1 (pc' := 80) (L' := [some (.ref x), some (.int (zi f)), some (.int (zi t)), some (.int (zi hi)), some (.int (zi lo))]) (S' := [.ref x]) rfl ?_
        have hl727 : hq700.2.2.2.1 cq700_0 = hq700.2.2.2.1 cq700_0 := congrFun sS725.2.2.2.2.1 cq700_0
        refine gz_call rfl (by decide) rfl (by decide) (by decide) (gcal_of rfl rfl rfl (Nat.le_of_ble_eq_true rfl) (gJ.recv (G := gGG) sS725.1 t702 rfl rfl)) (cw_putScanHead _ sS725.1 x t702 sk s709 t703 cq700_0 ecq700_0 tcq700_0 fq700_0 efq700_0 ⟨by omega, by omega⟩ f s714 ⟨by omega, by omega⟩ t s715 ⟨by omega, by omega⟩ hi s716 ⟨by omega, by omega⟩ lo s717 ⟨by omega, by omega⟩ (ekP 0 (ehN ((ecK iv f t hi lo cf e1w e1w (bs).toNat).2.1)) sg) (by omega) (by omega) uq724 yq700_0 yq700_1) (fun q728 _ wq728 => ?_)
        obtain ⟨pq728, oq728, hq728⟩ := q728
        obtain ⟨tyq728, xq728, cq728_0, ttq728, fq728_0, ecq728_0, tcq728_0, gq728, efq728_0, afq728_0, bfq728_0, uq728_0, uq728_1, uq728_2, uq728_3, uq728_4, uq728_5, uq728_6, uq728_7, yq728_0, yq728_1⟩ := wq728
        dsimp only at uq728_4 uq728_5 uq728_6 uq728_7
        refine ⟨_, gq728, ?_⟩
        show gz gPP gGG gcn _ _ 83 [some (.ref x), some (.int (zi f)), some (.int (zi t)), some (.int (zi hi)), some (.int (zi lo))] [] hq728 _
        have G729 : gSg [114] [] [56000, 56001, 56002, 56003, 71007, 71008, 71009, 71010, 71011, 71012, 71013, 71014, 76999, 77999, 78999, 79999, 80999, 81999, 85999, 91004, 91008, 92004, 92008, 93999, 94999, 95999, 96999, 97999, 98999, 99999, 114999] ty h tyq728 hq728 := gSg.tr (gSg.ss G701 sS725 (by decide)) xq728 (by decide) (by decide) (fun x hx => by cases hx)
        have t730 : tyq728 x = 71 := gSg.typ xq728 sS725.1 t702 rfl
        have t731 : tyq728 sk = 56 := gSg.typ xq728 sS725.1 t703 rfl
        have t732 : tyq728 bt = 114 := gSg.typ xq728 sS725.1 t704 rfl
        have hl733 : hq728.2.2.2.1 bt = hq700.2.2.2.1 bt := gSg.len xq728 sS725.1 t704 rfl
        have t734 : tyq728 c47 = 75 := gSg.typ xq728 sS725.1 t706 rfl
        have t735 : tyq728 c51 = 91 := gSg.typ xq728 sS725.1 t707 rfl
        have t736 : tyq728 c71 = 92 := gSg.typ xq728 sS725.1 t708 rfl
        have t737 : tyq728 cq700_0 = 114 := gSg.typ xq728 sS725.1 tcq700_0 rfl
        have hl738 : hq728.2.2.2.1 cq700_0 = hq700.2.2.2.1 cq700_0 := gSg.len xq728 sS725.1 tcq700_0 rfl
        have s739 := gSg.at xq728 sS725.1 t702 rfl (by decide) s709
        have s740 := gSg.at xq728 sS725.1 t703 rfl (by decide) s710
        have s741 := gSg.at xq728 sS725.1 t703 rfl (by decide) s711
        have s742 := gSg.at xq728 sS725.1 t702 rfl (by decide) s712
        have s743 := gSg.at xq728 sS725.1 t702 rfl (by decide) s713
        have s744 := gSg.at xq728 sS725.1 t702 rfl (by decide) s714
        have s745 := gSg.at xq728 sS725.1 t702 rfl (by decide) s715
        have s746 := gSg.at xq728 sS725.1 t702 rfl (by decide) s716
        have s747 := gSg.at xq728 sS725.1 t702 rfl (by decide) s717
        have s748 := gSg.at xq728 sS725.1 t702 rfl (by decide) s718
        have s749 := gSg.at xq728 sS725.1 t706 rfl (by decide) s719
        have s750 := gSg.at xq728 sS725.1 t706 rfl (by decide) s720
        have s751 := gSg.at xq728 sS725.1 t702 rfl (by decide) s721
        have pr752 := gRn.gr xq728 sS725.1 rfl (by decide) (by decide) pr722
        have pr753 := gRn.gr xq728 sS725.1 rfl (by decide) (by decide) pr723
        have pr754 := gTab.gr xq728 sS725.1 rfl rfl (fun _ => rfl) (fun _ => rfl) (by decide) (by decide) (by decide) (by decide) yq700_2
        have uq755 := gSg.uq xq728 uq724 (by decide)
        have sS756 : gSs rT 1027 tyq728 [56000, 56001, 56002, 56003, 71007, 71008, 71009, 71010, 71011, 71012, 71013, 71014, 76999, 77999, 78999, 79999, 80999, 81999, 85999, 91004, 91008, 92004, 92008, 93999, 94999, 95999, 96999, 97999, 98999, 99999, 114999] hq728 hq728 := gSs.rf xq728.1
        refine gz_s 2 (pc' := 85) (L' := [some (.ref x), some (.int (zi f)), some (.int (zi t)), some (.int (zi hi)), some (.int (zi lo))]) (S' := [.int (zi 0), .ref x]) rfl ?_
        refine gs_put rfl (by decide) rfl sS756 t730 rfl rfl rfl rfl (Or.inl rfl) (by decide) (by omega) (by omega) (fun h757 sh757 eh757 fh757 => ?_)
        have pr758 := gRn.pt fh757 t730 (by decide) pr752
        have pr759 := gRn.pt fh757 t730 (by decide) pr753
        have pr760 := gTab.pt fh757 t730 (by decide) (by decide) pr754
        have pr761 := gSW.pt fh757 t730 (by decide) yq728_0
        have s762 := (fh757 x 0 (fun q => absurd q.2 (by decide))).trans s739
        have s763 := (fh757 sk 2 (fun q => absurd q.2 (by decide))).trans s740
        have s764 := (fh757 sk 3 (fun q => absurd q.2 (by decide))).trans s741
        have s765 := (fh757 x 5 (fun q => absurd q.2 (by decide))).trans s742
        have s766 := (fh757 x 6 (fun q => absurd q.2 (by decide))).trans s743
        have s767 := (fh757 x 7 (fun q => absurd q.2 (by decide))).trans s744
        have s768 := (fh757 x 8 (fun q => absurd q.2 (by decide))).trans s745
        have s769 := (fh757 x 9 (fun q => absurd q.2 (by decide))).trans s746
        have s770 := (fh757 x 10 (fun q => absurd q.2 (by decide))).trans s747
        have s771 := (fh757 x 4 (fun q => absurd q.2 (by decide))).trans s748
        have s772 := (fh757 c47 0 (fun q => absurd (((t734).symm.trans (congrArg tyq728 q.1)).trans t730) (by decide))).trans s749
        have s773 := (fh757 c47 1 (fun q => absurd (((t734).symm.trans (congrArg tyq728 q.1)).trans t730) (by decide))).trans s750
        have s774 := (fh757 sk 0 (fun q => absurd q.2 (by decide))).trans ecq728_0
        have s775 := (fh757 sk 1 (fun q => absurd q.2 (by decide))).trans efq728_0
        have htb776 : gTab (f = 0 ∧ hi = 0) tyq728 95 96 (ekc (ehN (ecK iv f t hi lo cf e1w e1w (bs).toNat).2.1)) h757 := gTab.imp (fun _ => trivial) pr760
        have htb777 : gTab (0 < t) tyq728 78 79 (ekc (ehN (ecK iv f t hi lo cf e1w e1w (bs).toNat).2.2)) h757 := fun w => absurd w (by omega)
        refine gz_s 1 (pc' := 89) (L' := [some (.ref x), some (.int (zi f)), some (.int (zi t)), some (.int (zi hi)), some (.int (zi lo))]) (S' := [.ref x]) rfl ?_
        have k778 := sh757.2.1
        have k778b := sh757.2.2.1
        have hl779 : h757.2.2.2.1 bt = hq728.2.2.2.1 bt := congrFun sh757.2.2.2.2.1 bt
        have hl780 : h757.2.2.2.1 cq700_0 = hq728.2.2.2.1 cq700_0 := congrFun sh757.2.2.2.2.1 cq700_0
        have hl781 : h757.2.2.2.1 cq728_0 = hq728.2.2.2.1 cq728_0 := congrFun sh757.2.2.2.2.1 cq728_0
        have hl782 : h757.2.2.2.1 cq728_0 = hq728.2.2.2.1 cq728_0 := congrFun sh757.2.2.2.2.1 cq728_0
        refine gz_call rfl (by decide) rfl (by decide) (by decide) (gcal_of rfl rfl rfl (Nat.le_of_ble_eq_true rfl) (gJ.recv (G := gGG) sh757.1 t730 rfl rfl)) (cw_putBlocks _ sh757.1 x t730 sk s762 t731 cq728_0 s774 tcq728_0 fq728_0 s775 ⟨by omega, by omega⟩ u0 s763 ⟨by omega, by omega⟩ h0 s764 ⟨by omega, by omega⟩ 0 eh757 ⟨by omega, by omega⟩ f s767 ⟨by omega, by omega⟩ t s768 ⟨by omega, by omega⟩ hi s769 ⟨by omega, by omega⟩ lo s770 ⟨by omega, by omega⟩ bs s765 ⟨by omega, by omega⟩ iv s766 ⟨by omega, by omega⟩ cf (eSh f t hi lo (ekP 0 (ehN ((ecK iv f t hi lo cf e1w e1w (bs).toNat).2.1)) sg)) (ekc (ehN (ecK iv f t hi lo cf e1w e1w (bs).toNat).2.1)) (ekc (ehN (ecK iv f t hi lo cf e1w e1w (bs).toNat).2.2)) (by omega) (by omega) (by omega) (by omega) (by omega) (by omega) (by omega) uq755 pr761 yq728_1 pr758 htb776 htb777) (fun q783 _ wq783 => ?_)
        obtain ⟨pq783, oq783, hq783⟩ := q783
        obtain ⟨tyq783, xq783, cq783_0, ttq783, fq783_0, fq783_1, fq783_2, ecq783_0, tcq783_0, gq783, efq783_0, afq783_0, bfq783_0, efq783_1, afq783_1, bfq783_1, efq783_2, afq783_2, bfq783_2, uq783_0, uq783_1, uq783_2, uq783_3, uq783_4, uq783_5, uq783_6, uq783_7, uq783_8, yq783_0, yq783_1⟩ := wq783
        dsimp only at uq783_5 uq783_6 uq783_7 uq783_8
        refine ⟨_, gq783, ?_⟩
        show gz gPP gGG gcn _ _ 92 [some (.ref x), some (.int (zi f)), some (.int (zi t)), some (.int (zi hi)), some (.int (zi lo))] [] hq783 _
        have G784 : gSg [114] [] [56000, 56001, 56002, 56003, 71007, 71008, 71009, 71010, 71011, 71012, 71013, 71014, 76999, 77999, 78999, 79999, 80999, 81999, 85999, 91004, 91008, 92004, 92008, 93999, 94999, 95999, 96999, 97999, 98999, 99999, 114999] ty h tyq783 hq783 := gSg.tr (gSg.ss G729 sh757 (by decide)) xq783 (by decide) (by decide) (fun x hx => by cases hx)
        have t785 : tyq783 x = 71 := gSg.typ xq783 sh757.1 t730 rfl
        have t786 : tyq783 sk = 56 := gSg.typ xq783 sh757.1 t731 rfl
        have t787 : tyq783 bt = 114 := gSg.typ xq783 sh757.1 t732 rfl
        have hl788 : hq783.2.2.2.1 bt = h757.2.2.2.1 bt := gSg.len xq783 sh757.1 t732 rfl
        have t789 : tyq783 c47 = 75 := gSg.typ xq783 sh757.1 t734 rfl
        have t790 : tyq783 c51 = 91 := gSg.typ xq783 sh757.1 t735 rfl
        have t791 : tyq783 c71 = 92 := gSg.typ xq783 sh757.1 t736 rfl
        have t792 : tyq783 cq700_0 = 114 := gSg.typ xq783 sh757.1 t737 rfl
        have hl793 : hq783.2.2.2.1 cq700_0 = h757.2.2.2.1 cq700_0 := gSg.len xq783 sh757.1 t737 rfl
        have t794 : tyq783 cq728_0 = 114 := gSg.typ xq783 sh757.1 tcq728_0 rfl
        have hl795 : hq783.2.2.2.1 cq728_0 = h757.2.2.2.1 cq728_0 := gSg.len xq783 sh757.1 tcq728_0 rfl
        have s796 := gSg.at xq783 sh757.1 t730 rfl (by decide) s762
        have s797 := gSg.at xq783 sh757.1 t730 rfl (by decide) s765
        have s798 := gSg.at xq783 sh757.1 t730 rfl (by decide) s766
        have s799 := gSg.at xq783 sh757.1 t730 rfl (by decide) s767
        have s800 := gSg.at xq783 sh757.1 t730 rfl (by decide) s768
        have s801 := gSg.at xq783 sh757.1 t730 rfl (by decide) s769
        have s802 := gSg.at xq783 sh757.1 t730 rfl (by decide) s770
        have s803 := gSg.at xq783 sh757.1 t730 rfl (by decide) s771
        have s804 := gSg.at xq783 sh757.1 t734 rfl (by decide) s772
        have s805 := gSg.at xq783 sh757.1 t734 rfl (by decide) s773
        have s806 := gSg.at xq783 sh757.1 t730 rfl (by decide) eh757
        have pr807 := gRn.gr xq783 sh757.1 rfl (by decide) (by decide) pr758
        have pr808 := gRn.gr xq783 sh757.1 rfl (by decide) (by decide) pr759
        have pr809 := gTab.gr xq783 sh757.1 rfl rfl (fun _ => rfl) (fun _ => rfl) (by decide) (by decide) (by decide) (by decide) htb776
        have pr810 := gTab.gr xq783 sh757.1 rfl rfl (fun _ => rfl) (fun _ => rfl) (by decide) (by decide) (by decide) (by decide) htb777
        have uq811 := gSg.uq xq783 uq755 (by decide)
        have sS812 : gSs rT 1027 tyq783 [56000, 56001, 56002, 56003, 71007, 71008, 71009, 71010, 71011, 71012, 71013, 71014, 76999, 77999, 78999, 79999, 80999, 81999, 85999, 91004, 91008, 92004, 92008, 93999, 94999, 95999, 96999, 97999, 98999, 99999, 114999] hq783 hq783 := gSs.rf xq783.1
        refine gz_s 1 (pc' := 93) (L' := [some (.ref x), some (.int (zi f)), some (.int (zi t)), some (.int (zi hi)), some (.int (zi lo))]) (S' := [.ref x]) rfl ?_
        refine gs_gtk rfl (by decide) rfl sS812.1 t785 rfl rfl s796 ?_
        have hl813 : hq783.2.2.2.1 cq783_0 = hq783.2.2.2.1 cq783_0 := congrFun sS812.2.2.2.2.1 cq783_0
        refine gz_call rfl (by decide) rfl (by decide) (by decide) (gcal_of rfl rfl rfl (Nat.le_of_ble_eq_true rfl) (gJ.recv (G := gGG) sS812.1 t786 rfl rfl)) (cw_fillByte _ sS812.1 sk t786 cq783_0 ecq783_0 tcq783_0 fq783_0 efq783_0 ⟨by omega, by omega⟩ fq783_1 efq783_1 ⟨by omega, by omega⟩ fq783_2 efq783_2 ⟨by omega, by omega⟩ ((ewK (ekc (ehN (ecK iv f t hi lo cf e1w e1w (bs).toNat).2.1)) (ekc (ehN (ecK iv f t hi lo cf e1w e1w (bs).toNat).2.2)) iv f t hi lo cf (eSh f t hi lo (ekP 0 (ehN ((ecK iv f t hi lo cf e1w e1w (bs).toNat).2.1)) sg)) (bs).toNat).2) (by omega) (by omega) (by omega) (by omega) (by omega) uq811 yq783_0 yq783_1) (fun q814 _ wq814 => ?_)
        obtain ⟨pq814, oq814, hq814⟩ := q814
        obtain ⟨tyq814, xq814, cq814_0, ttq814, fq814_0, fq814_1, fq814_2, ecq814_0, tcq814_0, gq814, efq814_0, afq814_0, bfq814_0, efq814_1, afq814_1, bfq814_1, efq814_2, afq814_2, bfq814_2, uq814_0, uq814_1, uq814_2, uq814_3, uq814_4, uq814_5, uq814_6, uq814_7, uq814_8, yq814_0, yq814_1⟩ := wq814
        dsimp only at uq814_5 uq814_6 uq814_7 uq814_8
        refine ⟨_, gq814, ?_⟩
        show gz gPP gGG gcn _ _ 99 [some (.ref x), some (.int (zi f)), some (.int (zi t)), some (.int (zi hi)), some (.int (zi lo))] [] hq814 _
        have G815 : gSg [114] [] [56000, 56001, 56002, 56003, 71007, 71008, 71009, 71010, 71011, 71012, 71013, 71014, 76999, 77999, 78999, 79999, 80999, 81999, 85999, 91004, 91008, 92004, 92008, 93999, 94999, 95999, 96999, 97999, 98999, 99999, 114999] ty h tyq814 hq814 := gSg.tr (gSg.ss G784 sS812 (by decide)) xq814 (by decide) (by decide) (fun x hx => by cases hx)
        have t816 : tyq814 x = 71 := gSg.typ xq814 sS812.1 t785 rfl
        have t817 : tyq814 sk = 56 := gSg.typ xq814 sS812.1 t786 rfl
        have t818 : tyq814 bt = 114 := gSg.typ xq814 sS812.1 t787 rfl
        have hl819 : hq814.2.2.2.1 bt = hq783.2.2.2.1 bt := gSg.len xq814 sS812.1 t787 rfl
        have t820 : tyq814 c47 = 75 := gSg.typ xq814 sS812.1 t789 rfl
        have t821 : tyq814 c51 = 91 := gSg.typ xq814 sS812.1 t790 rfl
        have t822 : tyq814 c71 = 92 := gSg.typ xq814 sS812.1 t791 rfl
        have t823 : tyq814 cq700_0 = 114 := gSg.typ xq814 sS812.1 t792 rfl
        have hl824 : hq814.2.2.2.1 cq700_0 = hq783.2.2.2.1 cq700_0 := gSg.len xq814 sS812.1 t792 rfl
        have t825 : tyq814 cq728_0 = 114 := gSg.typ xq814 sS812.1 t794 rfl
        have hl826 : hq814.2.2.2.1 cq728_0 = hq783.2.2.2.1 cq728_0 := gSg.len xq814 sS812.1 t794 rfl
        have t827 : tyq814 cq783_0 = 114 := gSg.typ xq814 sS812.1 tcq783_0 rfl
        have hl828 : hq814.2.2.2.1 cq783_0 = hq783.2.2.2.1 cq783_0 := gSg.len xq814 sS812.1 tcq783_0 rfl
        have s829 := gSg.at xq814 sS812.1 t785 rfl (by decide) s796
        have s830 := gSg.at xq814 sS812.1 t785 rfl (by decide) s797
        have s831 := gSg.at xq814 sS812.1 t785 rfl (by decide) s798
        have s832 := gSg.at xq814 sS812.1 t785 rfl (by decide) s799
        have s833 := gSg.at xq814 sS812.1 t785 rfl (by decide) s800
        have s834 := gSg.at xq814 sS812.1 t785 rfl (by decide) s801
        have s835 := gSg.at xq814 sS812.1 t785 rfl (by decide) s802
        have s836 := gSg.at xq814 sS812.1 t785 rfl (by decide) s803
        have s837 := gSg.at xq814 sS812.1 t789 rfl (by decide) s804
        have s838 := gSg.at xq814 sS812.1 t789 rfl (by decide) s805
        have s839 := gSg.at xq814 sS812.1 t785 rfl (by decide) s806
        have pr840 := gRn.gr xq814 sS812.1 rfl (by decide) (by decide) pr807
        have pr841 := gRn.gr xq814 sS812.1 rfl (by decide) (by decide) pr808
        have pr842 := gTab.gr xq814 sS812.1 rfl rfl (fun _ => rfl) (fun _ => rfl) (by decide) (by decide) (by decide) (by decide) pr809
        have pr843 := gTab.gr xq814 sS812.1 rfl rfl (fun _ => rfl) (fun _ => rfl) (by decide) (by decide) (by decide) (by decide) pr810
        have uq844 := gSg.uq xq814 uq811 (by decide)
        have sS845 : gSs rT 1027 tyq814 [56000, 56001, 56002, 56003, 71007, 71008, 71009, 71010, 71011, 71012, 71013, 71014, 76999, 77999, 78999, 79999, 80999, 81999, 85999, 91004, 91008, 92004, 92008, 93999, 94999, 95999, 96999, 97999, 98999, 99999, 114999] hq814 hq814 := gSs.rf xq814.1
        have hk846 : eSc iv f t hi lo cf (bs).toNat sg = eeF ((ewK (ekc (ehN (ecK iv f t hi lo cf e1w e1w (bs).toNat).2.1)) (ekc (ehN (ecK iv f t hi lo cf e1w e1w (bs).toNat).2.2)) iv f t hi lo cf (eSh f t hi lo (ekP 0 (ehN ((ecK iv f t hi lo cf e1w e1w (bs).toNat).2.1)) sg)) (bs).toNat).2) := by unfold eSc; rw [if_neg (by omega), if_pos ⟨by omega, by omega⟩]
        have hk846_1 : (eSc iv f t hi lo cf (bs).toNat sg).1 = (eeF ((ewK (ekc (ehN (ecK iv f t hi lo cf e1w e1w (bs).toNat).2.1)) (ekc (ehN (ecK iv f t hi lo cf e1w e1w (bs).toNat).2.2)) iv f t hi lo cf (eSh f t hi lo (ekP 0 (ehN ((ecK iv f t hi lo cf e1w e1w (bs).toNat).2.1)) sg)) (bs).toNat).2)).1 := by rw [hk846]
        have hk846_21 : (eSc iv f t hi lo cf (bs).toNat sg).2.1 = (eeF ((ewK (ekc (ehN (ecK iv f t hi lo cf e1w e1w (bs).toNat).2.1)) (ekc (ehN (ecK iv f t hi lo cf e1w e1w (bs).toNat).2.2)) iv f t hi lo cf (eSh f t hi lo (ekP 0 (ehN ((ecK iv f t hi lo cf e1w e1w (bs).toNat).2.1)) sg)) (bs).toNat).2)).2.1 := by rw [hk846]
        have hk846_221 : (eSc iv f t hi lo cf (bs).toNat sg).2.2.1 = (eeF ((ewK (ekc (ehN (ecK iv f t hi lo cf e1w e1w (bs).toNat).2.1)) (ekc (ehN (ecK iv f t hi lo cf e1w e1w (bs).toNat).2.2)) iv f t hi lo cf (eSh f t hi lo (ekP 0 (ehN ((ecK iv f t hi lo cf e1w e1w (bs).toNat).2.1)) sg)) (bs).toNat).2)).2.2.1 := by rw [hk846]
        have hsw847 : gSW tyq814 cq814_0 (eSc iv f t hi lo cf (bs).toNat sg) hq814 := by rw [hk846]; exact yq814_0
        have hok848 : eeOk (eSc iv f t hi lo cf (bs).toNat sg) := by rw [hk846]; exact yq814_1
        have hoc849 := hok848.cur
        have hl850 : 1024 ≤ hq814.2.2.2.1 bt ∧ hq814.2.2.2.1 bt ≤ 1000000 := gJ.rowl (G := gGG) sS845.1 t818 rfl
        have hl851 : 1024 ≤ hq814.2.2.2.1 cq700_0 ∧ hq814.2.2.2.1 cq700_0 ≤ 1000000 := gJ.rowl (G := gGG) sS845.1 t823 rfl
        have hl852 : 1024 ≤ hq814.2.2.2.1 cq728_0 ∧ hq814.2.2.2.1 cq728_0 ≤ 1000000 := gJ.rowl (G := gGG) sS845.1 t825 rfl
        have hl853 : 1024 ≤ hq814.2.2.2.1 cq783_0 ∧ hq814.2.2.2.1 cq783_0 ≤ 1000000 := gJ.rowl (G := gGG) sS845.1 t827 rfl
        have hl854 : 1024 ≤ hq814.2.2.2.1 cq814_0 ∧ hq814.2.2.2.1 cq814_0 ≤ 1000000 := gJ.rowl (G := gGG) sS845.1 tcq814_0 rfl
        have G855 : gSg [114] [] [56000, 56001, 56002, 56003, 71007, 71008, 71009, 71010, 71011, 71012, 71013, 71014, 76999, 77999, 78999, 79999, 80999, 81999, 85999, 91004, 91008, 92004, 92008, 93999, 94999, 95999, 96999, 97999, 98999, 99999, 114999] ty h tyq814 hq814 := gSg.ss G815 sS845 (by decide)
        exact gz_end (I := .return_) (len := 1) rfl (Or.inl rfl) ⟨tyq814, G855, cq814_0, trivial, fq814_0, fq814_1, fq814_2, ecq814_0, tcq814_0, rfl, efq814_0, (by omega), (by omega), efq814_1, (by omega), (by omega), efq814_2, (by omega), (by omega), (by omega), (by omega), (by omega), (by omega), (by omega), (by dsimp only; omega), (by dsimp only; omega), (by dsimp only; omega), (by dsimp only; omega), hsw847, hok848⟩
      · refine gy_ifF rfl (by decide) (by decide) (by omega) hc726 ?_
        refine gz_s 2 (pc' := 76) (L' := [some (.ref x), some (.int (zi f)), some (.int (zi t)), some (.int (zi hi)), some (.int (zi lo))]) (S' := [.int (zi 1), .ref x]) rfl ?_
        have hl856 : hq700.2.2.2.1 cq700_0 = hq700.2.2.2.1 cq700_0 := congrFun sS725.2.2.2.2.1 cq700_0
        refine gz_call rfl (by decide) rfl (by decide) (by decide) (gcal_of rfl rfl rfl (Nat.le_of_ble_eq_true rfl) (gJ.recv (G := gGG) sS725.1 t702 rfl rfl)) (cw_putCodes1 _ sS725.1 x t702 1 ⟨by omega, by omega⟩ sk s709 t703 cq700_0 ecq700_0 tcq700_0 fq700_0 efq700_0 ⟨by omega, by omega⟩ ((ecK iv f t hi lo cf e1w e1w (bs).toNat).2.2) (ekP 0 (ehN ((ecK iv f t hi lo cf e1w e1w (bs).toNat).2.1)) sg) (by omega) (by omega) uq724 yq700_0 yq700_1 pr723 hB9.2 h69.2) (fun q857 _ wq857 => ?_)
        obtain ⟨pq857, oq857, hq857⟩ := q857
        obtain ⟨tyq857, xq857, cq857_0, ttq857, fq857_0, ecq857_0, tcq857_0, gq857, efq857_0, afq857_0, bfq857_0, uq857_0, uq857_1, uq857_2, uq857_3, uq857_4, uq857_5, uq857_6, uq857_7, uq857_8, yq857_0, yq857_1, yq857_2⟩ := wq857
        dsimp only at uq857_5 uq857_6 uq857_7 uq857_8
        refine ⟨_, gq857, ?_⟩
        show gz gPP gGG gcn _ _ 79 [some (.ref x), some (.int (zi f)), some (.int (zi t)), some (.int (zi hi)), some (.int (zi lo))] [] hq857 _
        have G858 : gSg [114] [] [56000, 56001, 56002, 56003, 71007, 71008, 71009, 71010, 71011, 71012, 71013, 71014, 76999, 77999, 78999, 79999, 80999, 81999, 85999, 91004, 91008, 92004, 92008, 93999, 94999, 95999, 96999, 97999, 98999, 99999, 114999] ty h tyq857 hq857 := gSg.tr (gSg.ss G701 sS725 (by decide)) xq857 (by decide) (by decide) (fun x hx => by cases hx)
        have t859 : tyq857 x = 71 := gSg.typ xq857 sS725.1 t702 rfl
        have t860 : tyq857 sk = 56 := gSg.typ xq857 sS725.1 t703 rfl
        have t861 : tyq857 bt = 114 := gSg.typ xq857 sS725.1 t704 rfl
        have hl862 : hq857.2.2.2.1 bt = hq700.2.2.2.1 bt := gSg.len xq857 sS725.1 t704 rfl
        have t863 : tyq857 c47 = 75 := gSg.typ xq857 sS725.1 t706 rfl
        have t864 : tyq857 c51 = 91 := gSg.typ xq857 sS725.1 t707 rfl
        have t865 : tyq857 c71 = 92 := gSg.typ xq857 sS725.1 t708 rfl
        have t866 : tyq857 cq700_0 = 114 := gSg.typ xq857 sS725.1 tcq700_0 rfl
        have hl867 : hq857.2.2.2.1 cq700_0 = hq700.2.2.2.1 cq700_0 := gSg.len xq857 sS725.1 tcq700_0 rfl
        have s868 := gSg.at xq857 sS725.1 t702 rfl (by decide) s709
        have s869 := gSg.at xq857 sS725.1 t703 rfl (by decide) s710
        have s870 := gSg.at xq857 sS725.1 t703 rfl (by decide) s711
        have s871 := gSg.at xq857 sS725.1 t702 rfl (by decide) s712
        have s872 := gSg.at xq857 sS725.1 t702 rfl (by decide) s713
        have s873 := gSg.at xq857 sS725.1 t702 rfl (by decide) s714
        have s874 := gSg.at xq857 sS725.1 t702 rfl (by decide) s715
        have s875 := gSg.at xq857 sS725.1 t702 rfl (by decide) s716
        have s876 := gSg.at xq857 sS725.1 t702 rfl (by decide) s717
        have s877 := gSg.at xq857 sS725.1 t702 rfl (by decide) s718
        have s878 := gSg.at xq857 sS725.1 t706 rfl (by decide) s719
        have s879 := gSg.at xq857 sS725.1 t706 rfl (by decide) s720
        have s880 := gSg.at xq857 sS725.1 t702 rfl (by decide) s721
        have pr881 := gRn.gr xq857 sS725.1 rfl (by decide) (by decide) pr722
        have pr882 := gTab.gr xq857 sS725.1 rfl rfl (fun _ => rfl) (fun _ => rfl) (by decide) (by decide) (by decide) (by decide) yq700_2
        have uq883 := gSg.uq xq857 uq724 (by decide)
        have sS884 : gSs rT 1027 tyq857 [56000, 56001, 56002, 56003, 71007, 71008, 71009, 71010, 71011, 71012, 71013, 71014, 76999, 77999, 78999, 79999, 80999, 81999, 85999, 91004, 91008, 92004, 92008, 93999, 94999, 95999, 96999, 97999, 98999, 99999, 114999] hq857 hq857 := gSs.rf xq857.1
        refine gz_s 1 (pc' := 80) (L' := [some (.ref x), some (.int (zi f)), some (.int (zi t)), some (.int (zi hi)), some (.int (zi lo))]) (S' := [.ref x]) rfl ?_
        have hl885 : hq857.2.2.2.1 cq857_0 = hq857.2.2.2.1 cq857_0 := congrFun sS884.2.2.2.2.1 cq857_0
        refine gz_call rfl (by decide) rfl (by decide) (by decide) (gcal_of rfl rfl rfl (Nat.le_of_ble_eq_true rfl) (gJ.recv (G := gGG) sS884.1 t859 rfl rfl)) (cw_putScanHead _ sS884.1 x t859 sk s868 t860 cq857_0 ecq857_0 tcq857_0 fq857_0 efq857_0 ⟨by omega, by omega⟩ f s873 ⟨by omega, by omega⟩ t s874 ⟨by omega, by omega⟩ hi s875 ⟨by omega, by omega⟩ lo s876 ⟨by omega, by omega⟩ (ekP 1 (ehN ((ecK iv f t hi lo cf e1w e1w (bs).toNat).2.2)) (ekP 0 (ehN ((ecK iv f t hi lo cf e1w e1w (bs).toNat).2.1)) sg)) (by omega) (by omega) uq883 yq857_0 yq857_1) (fun q886 _ wq886 => ?_)
        obtain ⟨pq886, oq886, hq886⟩ := q886
        obtain ⟨tyq886, xq886, cq886_0, ttq886, fq886_0, ecq886_0, tcq886_0, gq886, efq886_0, afq886_0, bfq886_0, uq886_0, uq886_1, uq886_2, uq886_3, uq886_4, uq886_5, uq886_6, uq886_7, yq886_0, yq886_1⟩ := wq886
        dsimp only at uq886_4 uq886_5 uq886_6 uq886_7
        refine ⟨_, gq886, ?_⟩
        show gz gPP gGG gcn _ _ 83 [some (.ref x), some (.int (zi f)), some (.int (zi t)), some (.int (zi hi)), some (.int (zi lo))] [] hq886 _
        have G887 : gSg [114] [] [56000, 56001, 56002, 56003, 71007, 71008, 71009, 71010, 71011, 71012, 71013, 71014, 76999, 77999, 78999, 79999, 80999, 81999, 85999, 91004, 91008, 92004, 92008, 93999, 94999, 95999, 96999, 97999, 98999, 99999, 114999] ty h tyq886 hq886 := gSg.tr (gSg.ss G858 sS884 (by decide)) xq886 (by decide) (by decide) (fun x hx => by cases hx)
        have t888 : tyq886 x = 71 := gSg.typ xq886 sS884.1 t859 rfl
        have t889 : tyq886 sk = 56 := gSg.typ xq886 sS884.1 t860 rfl
        have t890 : tyq886 bt = 114 := gSg.typ xq886 sS884.1 t861 rfl
        have hl891 : hq886.2.2.2.1 bt = hq857.2.2.2.1 bt := gSg.len xq886 sS884.1 t861 rfl
        have t892 : tyq886 c47 = 75 := gSg.typ xq886 sS884.1 t863 rfl
        have t893 : tyq886 c51 = 91 := gSg.typ xq886 sS884.1 t864 rfl
        have t894 : tyq886 c71 = 92 := gSg.typ xq886 sS884.1 t865 rfl
        have t895 : tyq886 cq700_0 = 114 := gSg.typ xq886 sS884.1 t866 rfl
        have hl896 : hq886.2.2.2.1 cq700_0 = hq857.2.2.2.1 cq700_0 := gSg.len xq886 sS884.1 t866 rfl
        have t897 : tyq886 cq857_0 = 114 := gSg.typ xq886 sS884.1 tcq857_0 rfl
        have hl898 : hq886.2.2.2.1 cq857_0 = hq857.2.2.2.1 cq857_0 := gSg.len xq886 sS884.1 tcq857_0 rfl
        have s899 := gSg.at xq886 sS884.1 t859 rfl (by decide) s868
        have s900 := gSg.at xq886 sS884.1 t860 rfl (by decide) s869
        have s901 := gSg.at xq886 sS884.1 t860 rfl (by decide) s870
        have s902 := gSg.at xq886 sS884.1 t859 rfl (by decide) s871
        have s903 := gSg.at xq886 sS884.1 t859 rfl (by decide) s872
        have s904 := gSg.at xq886 sS884.1 t859 rfl (by decide) s873
        have s905 := gSg.at xq886 sS884.1 t859 rfl (by decide) s874
        have s906 := gSg.at xq886 sS884.1 t859 rfl (by decide) s875
        have s907 := gSg.at xq886 sS884.1 t859 rfl (by decide) s876
        have s908 := gSg.at xq886 sS884.1 t859 rfl (by decide) s877
        have s909 := gSg.at xq886 sS884.1 t863 rfl (by decide) s878
        have s910 := gSg.at xq886 sS884.1 t863 rfl (by decide) s879
        have s911 := gSg.at xq886 sS884.1 t859 rfl (by decide) s880
        have pr912 := gRn.gr xq886 sS884.1 rfl (by decide) (by decide) pr881
        have pr913 := gTab.gr xq886 sS884.1 rfl rfl (fun _ => rfl) (fun _ => rfl) (by decide) (by decide) (by decide) (by decide) pr882
        have pr914 := gTab.gr xq886 sS884.1 rfl rfl (fun _ => rfl) (fun _ => rfl) (by decide) (by decide) (by decide) (by decide) yq857_2
        have uq915 := gSg.uq xq886 uq883 (by decide)
        have sS916 : gSs rT 1027 tyq886 [56000, 56001, 56002, 56003, 71007, 71008, 71009, 71010, 71011, 71012, 71013, 71014, 76999, 77999, 78999, 79999, 80999, 81999, 85999, 91004, 91008, 92004, 92008, 93999, 94999, 95999, 96999, 97999, 98999, 99999, 114999] hq886 hq886 := gSs.rf xq886.1
        refine gz_s 2 (pc' := 85) (L' := [some (.ref x), some (.int (zi f)), some (.int (zi t)), some (.int (zi hi)), some (.int (zi lo))]) (S' := [.int (zi 0), .ref x]) rfl ?_
        refine gs_put rfl (by decide) rfl sS916 t888 rfl rfl rfl rfl (Or.inl rfl) (by decide) (by omega) (by omega) (fun h917 sh917 eh917 fh917 => ?_)
        have pr918 := gRn.pt fh917 t888 (by decide) pr912
        have pr919 := gTab.pt fh917 t888 (by decide) (by decide) pr913
        have pr920 := gTab.pt fh917 t888 (by decide) (by decide) pr914
        have pr921 := gSW.pt fh917 t888 (by decide) yq886_0
        have s922 := (fh917 x 0 (fun q => absurd q.2 (by decide))).trans s899
        have s923 := (fh917 sk 2 (fun q => absurd q.2 (by decide))).trans s900
        have s924 := (fh917 sk 3 (fun q => absurd q.2 (by decide))).trans s901
        have s925 := (fh917 x 5 (fun q => absurd q.2 (by decide))).trans s902
        have s926 := (fh917 x 6 (fun q => absurd q.2 (by decide))).trans s903
        have s927 := (fh917 x 7 (fun q => absurd q.2 (by decide))).trans s904
        have s928 := (fh917 x 8 (fun q => absurd q.2 (by decide))).trans s905
        have s929 := (fh917 x 9 (fun q => absurd q.2 (by decide))).trans s906
        have s930 := (fh917 x 10 (fun q => absurd q.2 (by decide))).trans s907
        have s931 := (fh917 x 4 (fun q => absurd q.2 (by decide))).trans s908
        have s932 := (fh917 c47 0 (fun q => absurd (((t892).symm.trans (congrArg tyq886 q.1)).trans t888) (by decide))).trans s909
        have s933 := (fh917 c47 1 (fun q => absurd (((t892).symm.trans (congrArg tyq886 q.1)).trans t888) (by decide))).trans s910
        have s934 := (fh917 sk 0 (fun q => absurd q.2 (by decide))).trans ecq886_0
        have s935 := (fh917 sk 1 (fun q => absurd q.2 (by decide))).trans efq886_0
        have htb936 : gTab (f = 0 ∧ hi = 0) tyq886 95 96 (ekc (ehN (ecK iv f t hi lo cf e1w e1w (bs).toNat).2.1)) h917 := gTab.imp (fun _ => trivial) pr919
        have htb937 : gTab (0 < t) tyq886 78 79 (ekc (ehN (ecK iv f t hi lo cf e1w e1w (bs).toNat).2.2)) h917 := gTab.imp (fun _ => trivial) pr920
        refine gz_s 1 (pc' := 89) (L' := [some (.ref x), some (.int (zi f)), some (.int (zi t)), some (.int (zi hi)), some (.int (zi lo))]) (S' := [.ref x]) rfl ?_
        have k938 := sh917.2.1
        have k938b := sh917.2.2.1
        have hl939 : h917.2.2.2.1 bt = hq886.2.2.2.1 bt := congrFun sh917.2.2.2.2.1 bt
        have hl940 : h917.2.2.2.1 cq700_0 = hq886.2.2.2.1 cq700_0 := congrFun sh917.2.2.2.2.1 cq700_0
        have hl941 : h917.2.2.2.1 cq857_0 = hq886.2.2.2.1 cq857_0 := congrFun sh917.2.2.2.2.1 cq857_0
        have hl942 : h917.2.2.2.1 cq886_0 = hq886.2.2.2.1 cq886_0 := congrFun sh917.2.2.2.2.1 cq886_0
        have hl943 : h917.2.2.2.1 cq886_0 = hq886.2.2.2.1 cq886_0 := congrFun sh917.2.2.2.2.1 cq886_0
        refine gz_call rfl (by decide) rfl (by decide) (by decide) (gcal_of rfl rfl rfl (Nat.le_of_ble_eq_true rfl) (gJ.recv (G := gGG) sh917.1 t888 rfl rfl)) (cw_putBlocks _ sh917.1 x t888 sk s922 t889 cq886_0 s934 tcq886_0 fq886_0 s935 ⟨by omega, by omega⟩ u0 s923 ⟨by omega, by omega⟩ h0 s924 ⟨by omega, by omega⟩ 0 eh917 ⟨by omega, by omega⟩ f s927 ⟨by omega, by omega⟩ t s928 ⟨by omega, by omega⟩ hi s929 ⟨by omega, by omega⟩ lo s930 ⟨by omega, by omega⟩ bs s925 ⟨by omega, by omega⟩ iv s926 ⟨by omega, by omega⟩ cf (eSh f t hi lo (ekP 1 (ehN ((ecK iv f t hi lo cf e1w e1w (bs).toNat).2.2)) (ekP 0 (ehN ((ecK iv f t hi lo cf e1w e1w (bs).toNat).2.1)) sg))) (ekc (ehN (ecK iv f t hi lo cf e1w e1w (bs).toNat).2.1)) (ekc (ehN (ecK iv f t hi lo cf e1w e1w (bs).toNat).2.2)) (by omega) (by omega) (by omega) (by omega) (by omega) (by omega) (by omega) uq915 pr921 yq886_1 pr918 htb936 htb937) (fun q944 _ wq944 => ?_)
        obtain ⟨pq944, oq944, hq944⟩ := q944
        obtain ⟨tyq944, xq944, cq944_0, ttq944, fq944_0, fq944_1, fq944_2, ecq944_0, tcq944_0, gq944, efq944_0, afq944_0, bfq944_0, efq944_1, afq944_1, bfq944_1, efq944_2, afq944_2, bfq944_2, uq944_0, uq944_1, uq944_2, uq944_3, uq944_4, uq944_5, uq944_6, uq944_7, uq944_8, yq944_0, yq944_1⟩ := wq944
        dsimp only at uq944_5 uq944_6 uq944_7 uq944_8
        refine ⟨_, gq944, ?_⟩
        show gz gPP gGG gcn _ _ 92 [some (.ref x), some (.int (zi f)), some (.int (zi t)), some (.int (zi hi)), some (.int (zi lo))] [] hq944 _
        have G945 : gSg [114] [] [56000, 56001, 56002, 56003, 71007, 71008, 71009, 71010, 71011, 71012, 71013, 71014, 76999, 77999, 78999, 79999, 80999, 81999, 85999, 91004, 91008, 92004, 92008, 93999, 94999, 95999, 96999, 97999, 98999, 99999, 114999] ty h tyq944 hq944 := gSg.tr (gSg.ss G887 sh917 (by decide)) xq944 (by decide) (by decide) (fun x hx => by cases hx)
        have t946 : tyq944 x = 71 := gSg.typ xq944 sh917.1 t888 rfl
        have t947 : tyq944 sk = 56 := gSg.typ xq944 sh917.1 t889 rfl
        have t948 : tyq944 bt = 114 := gSg.typ xq944 sh917.1 t890 rfl
        have hl949 : hq944.2.2.2.1 bt = h917.2.2.2.1 bt := gSg.len xq944 sh917.1 t890 rfl
        have t950 : tyq944 c47 = 75 := gSg.typ xq944 sh917.1 t892 rfl
        have t951 : tyq944 c51 = 91 := gSg.typ xq944 sh917.1 t893 rfl
        have t952 : tyq944 c71 = 92 := gSg.typ xq944 sh917.1 t894 rfl
        have t953 : tyq944 cq700_0 = 114 := gSg.typ xq944 sh917.1 t895 rfl
        have hl954 : hq944.2.2.2.1 cq700_0 = h917.2.2.2.1 cq700_0 := gSg.len xq944 sh917.1 t895 rfl
        have t955 : tyq944 cq857_0 = 114 := gSg.typ xq944 sh917.1 t897 rfl
        have hl956 : hq944.2.2.2.1 cq857_0 = h917.2.2.2.1 cq857_0 := gSg.len xq944 sh917.1 t897 rfl
        have t957 : tyq944 cq886_0 = 114 := gSg.typ xq944 sh917.1 tcq886_0 rfl
        have hl958 : hq944.2.2.2.1 cq886_0 = h917.2.2.2.1 cq886_0 := gSg.len xq944 sh917.1 tcq886_0 rfl
        have s959 := gSg.at xq944 sh917.1 t888 rfl (by decide) s922
        have s960 := gSg.at xq944 sh917.1 t888 rfl (by decide) s925
        have s961 := gSg.at xq944 sh917.1 t888 rfl (by decide) s926
        have s962 := gSg.at xq944 sh917.1 t888 rfl (by decide) s927
        have s963 := gSg.at xq944 sh917.1 t888 rfl (by decide) s928
        have s964 := gSg.at xq944 sh917.1 t888 rfl (by decide) s929
        have s965 := gSg.at xq944 sh917.1 t888 rfl (by decide) s930
        have s966 := gSg.at xq944 sh917.1 t888 rfl (by decide) s931
        have s967 := gSg.at xq944 sh917.1 t892 rfl (by decide) s932
        have s968 := gSg.at xq944 sh917.1 t892 rfl (by decide) s933
        have s969 := gSg.at xq944 sh917.1 t888 rfl (by decide) eh917
        have pr970 := gRn.gr xq944 sh917.1 rfl (by decide) (by decide) pr918
        have pr971 := gTab.gr xq944 sh917.1 rfl rfl (fun _ => rfl) (fun _ => rfl) (by decide) (by decide) (by decide) (by decide) htb936
        have pr972 := gTab.gr xq944 sh917.1 rfl rfl (fun _ => rfl) (fun _ => rfl) (by decide) (by decide) (by decide) (by decide) htb937
        have uq973 := gSg.uq xq944 uq915 (by decide)
        have sS974 : gSs rT 1027 tyq944 [56000, 56001, 56002, 56003, 71007, 71008, 71009, 71010, 71011, 71012, 71013, 71014, 76999, 77999, 78999, 79999, 80999, 81999, 85999, 91004, 91008, 92004, 92008, 93999, 94999, 95999, 96999, 97999, 98999, 99999, 114999] hq944 hq944 := gSs.rf xq944.1
        refine gz_s 1 (pc' := 93) (L' := [some (.ref x), some (.int (zi f)), some (.int (zi t)), some (.int (zi hi)), some (.int (zi lo))]) (S' := [.ref x]) rfl ?_
        refine gs_gtk rfl (by decide) rfl sS974.1 t946 rfl rfl s959 ?_
        have hl975 : hq944.2.2.2.1 cq944_0 = hq944.2.2.2.1 cq944_0 := congrFun sS974.2.2.2.2.1 cq944_0
        refine gz_call rfl (by decide) rfl (by decide) (by decide) (gcal_of rfl rfl rfl (Nat.le_of_ble_eq_true rfl) (gJ.recv (G := gGG) sS974.1 t947 rfl rfl)) (cw_fillByte _ sS974.1 sk t947 cq944_0 ecq944_0 tcq944_0 fq944_0 efq944_0 ⟨by omega, by omega⟩ fq944_1 efq944_1 ⟨by omega, by omega⟩ fq944_2 efq944_2 ⟨by omega, by omega⟩ ((ewK (ekc (ehN (ecK iv f t hi lo cf e1w e1w (bs).toNat).2.1)) (ekc (ehN (ecK iv f t hi lo cf e1w e1w (bs).toNat).2.2)) iv f t hi lo cf (eSh f t hi lo (ekP 1 (ehN ((ecK iv f t hi lo cf e1w e1w (bs).toNat).2.2)) (ekP 0 (ehN ((ecK iv f t hi lo cf e1w e1w (bs).toNat).2.1)) sg))) (bs).toNat).2) (by omega) (by omega) (by omega) (by omega) (by omega) uq973 yq944_0 yq944_1) (fun q976 _ wq976 => ?_)
        obtain ⟨pq976, oq976, hq976⟩ := q976
        obtain ⟨tyq976, xq976, cq976_0, ttq976, fq976_0, fq976_1, fq976_2, ecq976_0, tcq976_0, gq976, efq976_0, afq976_0, bfq976_0, efq976_1, afq976_1, bfq976_1, efq976_2, afq976_2, bfq976_2, uq976_0, uq976_1, uq976_2, uq976_3, uq976_4, uq976_5, uq976_6, uq976_7, uq976_8, yq976_0, yq976_1⟩ := wq976
        dsimp only at uq976_5 uq976_6 uq976_7 uq976_8
        refine ⟨_, gq976, ?_⟩
        show gz gPP gGG gcn _ _ 99 [some (.ref x), some (.int (zi f)), some (.int (zi t)), some (.int (zi hi)), some (.int (zi lo))] [] hq976 _
        have G977 : gSg [114] [] [56000, 56001, 56002, 56003, 71007, 71008, 71009, 71010, 71011, 71012, 71013, 71014, 76999, 77999, 78999, 79999, 80999, 81999, 85999, 91004, 91008, 92004, 92008, 93999, 94999, 95999, 96999, 97999, 98999, 99999, 114999] ty h tyq976 hq976 := gSg.tr (gSg.ss G945 sS974 (by decide)) xq976 (by decide) (by decide) (fun x hx => by cases hx)
        have t978 : tyq976 x = 71 := gSg.typ xq976 sS974.1 t946 rfl
        have t979 : tyq976 sk = 56 := gSg.typ xq976 sS974.1 t947 rfl
        have t980 : tyq976 bt = 114 := gSg.typ xq976 sS974.1 t948 rfl
        have hl981 : hq976.2.2.2.1 bt = hq944.2.2.2.1 bt := gSg.len xq976 sS974.1 t948 rfl
        have t982 : tyq976 c47 = 75 := gSg.typ xq976 sS974.1 t950 rfl
        have t983 : tyq976 c51 = 91 := gSg.typ xq976 sS974.1 t951 rfl
        have t984 : tyq976 c71 = 92 := gSg.typ xq976 sS974.1 t952 rfl
        have t985 : tyq976 cq700_0 = 114 := gSg.typ xq976 sS974.1 t953 rfl
        have hl986 : hq976.2.2.2.1 cq700_0 = hq944.2.2.2.1 cq700_0 := gSg.len xq976 sS974.1 t953 rfl
        have t987 : tyq976 cq857_0 = 114 := gSg.typ xq976 sS974.1 t955 rfl
        have hl988 : hq976.2.2.2.1 cq857_0 = hq944.2.2.2.1 cq857_0 := gSg.len xq976 sS974.1 t955 rfl
        have t989 : tyq976 cq886_0 = 114 := gSg.typ xq976 sS974.1 t957 rfl
        have hl990 : hq976.2.2.2.1 cq886_0 = hq944.2.2.2.1 cq886_0 := gSg.len xq976 sS974.1 t957 rfl
        have t991 : tyq976 cq944_0 = 114 := gSg.typ xq976 sS974.1 tcq944_0 rfl
        have hl992 : hq976.2.2.2.1 cq944_0 = hq944.2.2.2.1 cq944_0 := gSg.len xq976 sS974.1 tcq944_0 rfl
        have s993 := gSg.at xq976 sS974.1 t946 rfl (by decide) s959
        have s994 := gSg.at xq976 sS974.1 t946 rfl (by decide) s960
        have s995 := gSg.at xq976 sS974.1 t946 rfl (by decide) s961
        have s996 := gSg.at xq976 sS974.1 t946 rfl (by decide) s962
        have s997 := gSg.at xq976 sS974.1 t946 rfl (by decide) s963
        have s998 := gSg.at xq976 sS974.1 t946 rfl (by decide) s964
        have s999 := gSg.at xq976 sS974.1 t946 rfl (by decide) s965
        have s1000 := gSg.at xq976 sS974.1 t946 rfl (by decide) s966
        have s1001 := gSg.at xq976 sS974.1 t950 rfl (by decide) s967
        have s1002 := gSg.at xq976 sS974.1 t950 rfl (by decide) s968
        have s1003 := gSg.at xq976 sS974.1 t946 rfl (by decide) s969
        have pr1004 := gRn.gr xq976 sS974.1 rfl (by decide) (by decide) pr970
        have pr1005 := gTab.gr xq976 sS974.1 rfl rfl (fun _ => rfl) (fun _ => rfl) (by decide) (by decide) (by decide) (by decide) pr971
        have pr1006 := gTab.gr xq976 sS974.1 rfl rfl (fun _ => rfl) (fun _ => rfl) (by decide) (by decide) (by decide) (by decide) pr972
        have uq1007 := gSg.uq xq976 uq973 (by decide)
        have sS1008 : gSs rT 1027 tyq976 [56000, 56001, 56002, 56003, 71007, 71008, 71009, 71010, 71011, 71012, 71013, 71014, 76999, 77999, 78999, 79999, 80999, 81999, 85999, 91004, 91008, 92004, 92008, 93999, 94999, 95999, 96999, 97999, 98999, 99999, 114999] hq976 hq976 := gSs.rf xq976.1
        have hk1009 : eSc iv f t hi lo cf (bs).toNat sg = eeF ((ewK (ekc (ehN (ecK iv f t hi lo cf e1w e1w (bs).toNat).2.1)) (ekc (ehN (ecK iv f t hi lo cf e1w e1w (bs).toNat).2.2)) iv f t hi lo cf (eSh f t hi lo (ekP 1 (ehN ((ecK iv f t hi lo cf e1w e1w (bs).toNat).2.2)) (ekP 0 (ehN ((ecK iv f t hi lo cf e1w e1w (bs).toNat).2.1)) sg))) (bs).toNat).2) := by unfold eSc; rw [if_pos (by omega), if_pos ⟨by omega, by omega⟩]
        have hk1009_1 : (eSc iv f t hi lo cf (bs).toNat sg).1 = (eeF ((ewK (ekc (ehN (ecK iv f t hi lo cf e1w e1w (bs).toNat).2.1)) (ekc (ehN (ecK iv f t hi lo cf e1w e1w (bs).toNat).2.2)) iv f t hi lo cf (eSh f t hi lo (ekP 1 (ehN ((ecK iv f t hi lo cf e1w e1w (bs).toNat).2.2)) (ekP 0 (ehN ((ecK iv f t hi lo cf e1w e1w (bs).toNat).2.1)) sg))) (bs).toNat).2)).1 := by rw [hk1009]
        have hk1009_21 : (eSc iv f t hi lo cf (bs).toNat sg).2.1 = (eeF ((ewK (ekc (ehN (ecK iv f t hi lo cf e1w e1w (bs).toNat).2.1)) (ekc (ehN (ecK iv f t hi lo cf e1w e1w (bs).toNat).2.2)) iv f t hi lo cf (eSh f t hi lo (ekP 1 (ehN ((ecK iv f t hi lo cf e1w e1w (bs).toNat).2.2)) (ekP 0 (ehN ((ecK iv f t hi lo cf e1w e1w (bs).toNat).2.1)) sg))) (bs).toNat).2)).2.1 := by rw [hk1009]
        have hk1009_221 : (eSc iv f t hi lo cf (bs).toNat sg).2.2.1 = (eeF ((ewK (ekc (ehN (ecK iv f t hi lo cf e1w e1w (bs).toNat).2.1)) (ekc (ehN (ecK iv f t hi lo cf e1w e1w (bs).toNat).2.2)) iv f t hi lo cf (eSh f t hi lo (ekP 1 (ehN ((ecK iv f t hi lo cf e1w e1w (bs).toNat).2.2)) (ekP 0 (ehN ((ecK iv f t hi lo cf e1w e1w (bs).toNat).2.1)) sg))) (bs).toNat).2)).2.2.1 := by rw [hk1009]
        have hsw1010 : gSW tyq976 cq976_0 (eSc iv f t hi lo cf (bs).toNat sg) hq976 := by rw [hk1009]; exact yq976_0
        have hok1011 : eeOk (eSc iv f t hi lo cf (bs).toNat sg) := by rw [hk1009]; exact yq976_1
        have hoc1012 := hok1011.cur
        have hl1013 : 1024 ≤ hq976.2.2.2.1 bt ∧ hq976.2.2.2.1 bt ≤ 1000000 := gJ.rowl (G := gGG) sS1008.1 t980 rfl
        have hl1014 : 1024 ≤ hq976.2.2.2.1 cq700_0 ∧ hq976.2.2.2.1 cq700_0 ≤ 1000000 := gJ.rowl (G := gGG) sS1008.1 t985 rfl
        have hl1015 : 1024 ≤ hq976.2.2.2.1 cq857_0 ∧ hq976.2.2.2.1 cq857_0 ≤ 1000000 := gJ.rowl (G := gGG) sS1008.1 t987 rfl
        have hl1016 : 1024 ≤ hq976.2.2.2.1 cq886_0 ∧ hq976.2.2.2.1 cq886_0 ≤ 1000000 := gJ.rowl (G := gGG) sS1008.1 t989 rfl
        have hl1017 : 1024 ≤ hq976.2.2.2.1 cq944_0 ∧ hq976.2.2.2.1 cq944_0 ≤ 1000000 := gJ.rowl (G := gGG) sS1008.1 t991 rfl
        have hl1018 : 1024 ≤ hq976.2.2.2.1 cq976_0 ∧ hq976.2.2.2.1 cq976_0 ≤ 1000000 := gJ.rowl (G := gGG) sS1008.1 tcq976_0 rfl
        have G1019 : gSg [114] [] [56000, 56001, 56002, 56003, 71007, 71008, 71009, 71010, 71011, 71012, 71013, 71014, 76999, 77999, 78999, 79999, 80999, 81999, 85999, 91004, 91008, 92004, 92008, 93999, 94999, 95999, 96999, 97999, 98999, 99999, 114999] ty h tyq976 hq976 := gSg.ss G977 sS1008 (by decide)
        exact gz_end (I := .return_) (len := 1) rfl (Or.inl rfl) ⟨tyq976, G1019, cq976_0, trivial, fq976_0, fq976_1, fq976_2, ecq976_0, tcq976_0, rfl, efq976_0, (by omega), (by omega), efq976_1, (by omega), (by omega), efq976_2, (by omega), (by omega), (by omega), (by omega), (by omega), (by omega), (by omega), (by dsimp only; omega), (by dsimp only; omega), (by dsimp only; omega), (by dsimp only; omega), hsw1010, hok1011⟩
set_option maxRecDepth 20000 in
set_option maxHeartbeats 4000000 in
theorem cw_putHead (d : Nat) {ty : Nat → Nat} {h : gH} (hJ : gJ rT 1027 ty h) (x : Nat) (tx : ty x = 71) (dr : Nat) (tdr : ty dr = 55) (sk : Nat) (esk : h.2.2.2.2 x 0 = .ref sk) (tsk : ty sk = 56) (bt : Nat) (ebt : h.2.2.2.2 sk 0 = .ref bt) (tbt : ty bt = 114) (iv0 : Int) (eiv0 : h.2.2.2.2 dr 3 = .int (zi iv0)) (riv0 : 0 ≤ iv0 ∧ iv0 ≤ 100) (sc : Int) (esc : h.2.2.2.2 dr 8 = .int (zi sc)) (rsc : 0 ≤ sc ∧ sc ≤ 10) (hh : Int) (ehh : h.2.2.2.2 dr 2 = .int (zi hh)) (rhh : 1 ≤ hh ∧ hh ≤ 32) (ww : Int) (eww : h.2.2.2.2 dr 1 = .int (zi ww)) (rww : 1 ≤ ww ∧ ww ≤ 32) (tb : Nat → Int) (uq : gUq ty) (hyf72 : gRn 64 ty 72 tb h) : gz gPP gGG gcn (d + 4) gt99 0 (gent [.ref x, .ref dr] 3) [] h (fun q _ => ∃ ty9 : Nat → Nat, gSg [114] [] [56000, 56001, 56002, 56003, 71006, 114999] ty h ty9 q.2.2 ∧ ∃ bt2 : Nat, True ∧ ∃ c1 u1 h1 iv1 : Int, q.2.2.2.2.2.2 sk 0 = .ref bt2 ∧ ty9 bt2 = 114 ∧ gfin gt99 q.1 q.2.1 = some none ∧ q.2.2.2.2.2.2 sk 1 = .int (zi c1) ∧ 0 ≤ c1 ∧ c1 ≤ 500000 ∧ q.2.2.2.2.2.2 sk 2 = .int (zi u1) ∧ 0 ≤ u1 ∧ u1 ≤ 127 ∧ q.2.2.2.2.2.2 sk 3 = .int (zi h1) ∧ 0 ≤ h1 ∧ h1 ≤ 7 ∧ q.2.2.2.2.2.2 x 6 = .int (zi iv1) ∧ 0 ≤ iv1 ∧ iv1 ≤ 100 ∧ (iv1 = iv0) ∧ (c1 ≤ 100) ∧ (h1 = 0) ∧ (u1 = 0) ∧ (c1 = (eHd tb sc hh ww iv0).1) ∧ (u1 = (eHd tb sc hh ww iv0).2.1) ∧ (h1 = (eHd tb sc hh ww iv0).2.2.1) ∧ (1024 * ((q.2.2.1 : Int) - h.1) ≤ (q.2.2.2.2.2.1 bt2 : Int) - h.2.2.2.1 bt) ∧ (((q.2.2.2.1 : Int) - h.2.1) ≤ 2 * ((q.2.2.2.2.2.1 bt2 : Int) - h.2.2.2.1 bt)) ∧ ((h.2.2.2.1 bt : Int) ≤ (q.2.2.2.2.2.1 bt2 : Int)) ∧ (c1 ≤ (q.2.2.2.2.2.1 bt2 : Int)) ∧ (gSW ty9 bt2 (eHd tb sc hh ww iv0) q.2.2) ∧ (eeOk (eHd tb sc hh ww iv0))) := by
  have hS : gSs rT 1027 ty [56000, 56001, 56002, 56003, 71006, 114999] h h := gSs.rf hJ
  have G0 : gSg [114] [] [56000, 56001, 56002, 56003, 71006, 114999] ty h ty h := gSg.rf hJ (fun x hx => by cases hx)
  refine gz_s 2 (pc' := 2) (L' := [some (.ref x), some (.ref dr), none]) (S' := [.ref dr, .ref x]) rfl ?_
  refine gs_gtk rfl (by decide) rfl hS.1 tdr rfl rfl eiv0 ?_
  refine gs_put rfl (by decide) rfl hS tx rfl rfl rfl rfl (Or.inl rfl) (by decide) (by omega) (by omega) (fun h1 sh1 eh1 fh1 => ?_)
  have pr2 := gRn.pt fh1 tx (by decide) hyf72
  have s3 := (fh1 x 0 (fun q => absurd q.2 (by decide))).trans esk
  have s4 := (fh1 sk 0 (fun q => absurd q.2 (by decide))).trans ebt
  have s5 := (fh1 dr 3 (fun q => absurd q.2 (by decide))).trans eiv0
  have s6 := (fh1 dr 8 (fun q => absurd q.2 (by decide))).trans esc
  have s7 := (fh1 dr 2 (fun q => absurd q.2 (by decide))).trans ehh
  have s8 := (fh1 dr 1 (fun q => absurd q.2 (by decide))).trans eww
  refine gz_s 1 (pc' := 9) (L' := [some (.ref x), some (.ref dr), none]) (S' := [.ref x]) rfl ?_
  refine gs_gtk rfl (by decide) rfl sh1.1 tx rfl rfl s3 ?_
  refine gz_call rfl (by decide) rfl (by decide) (by decide) (gcal_of rfl rfl rfl (Nat.le_of_ble_eq_true rfl) (gJ.recv (G := gGG) sh1.1 tsk rfl rfl)) (cw_forget _ sh1.1 sk tsk bt s4 tbt uq) (fun q9 _ wq9 => ?_)
  obtain ⟨pq9, oq9, hq9⟩ := q9
  obtain ⟨xq9, fq9_0, fq9_1, fq9_2, gq9, efq9_0, afq9_0, bfq9_0, efq9_1, afq9_1, bfq9_1, efq9_2, afq9_2, bfq9_2, uq9_0, uq9_1, uq9_2, yq9_0, yq9_1⟩ := wq9
  refine ⟨_, gq9, ?_⟩
  show gz gPP gGG gcn _ _ 15 [some (.ref x), some (.ref dr), none] [] hq9 _
  have sq9 : gSs rT 1027 ty [56000, 56001, 56002, 56003, 71006, 114999] h hq9 := gSs.tr sh1 xq9 (by decide)
  have s10 := (xq9.2.2.2.2.2 x 0 (by rw [tx]; decide)).trans s3
  have s11 := (xq9.2.2.2.2.2 sk 0 (by rw [tsk]; decide)).trans s4
  have s12 := (xq9.2.2.2.2.2 dr 3 (by rw [tdr]; decide)).trans s5
  have s13 := (xq9.2.2.2.2.2 dr 8 (by rw [tdr]; decide)).trans s6
  have s14 := (xq9.2.2.2.2.2 dr 2 (by rw [tdr]; decide)).trans s7
  have s15 := (xq9.2.2.2.2.2 dr 1 (by rw [tdr]; decide)).trans s8
  have s16 := (xq9.2.2.2.2.2 x 6 (by rw [tx]; decide)).trans eh1
  have pr17 := gRn.fr xq9.2 (by decide) pr2
  refine gz_s 1 (pc' := 16) (L' := [some (.ref x), some (.ref dr), none]) (S' := [.ref x]) rfl ?_
  refine gs_gtk rfl (by decide) rfl sq9.1 tx rfl rfl s10 ?_
  refine gz_s 1 (pc' := 22) (L' := [some (.ref x), some (.ref dr), none]) (S' := [.int (zi 216), .ref sk]) rfl ?_
  have k18 := sq9.2.1
  have k18b := sq9.2.2.1
  have hl19 : hq9.2.2.2.1 bt = h.2.2.2.1 bt := congrFun sq9.2.2.2.2.1 bt
  have hl20 : hq9.2.2.2.1 bt = h.2.2.2.1 bt := congrFun sq9.2.2.2.2.1 bt
  refine gz_call rfl (by decide) rfl (by decide) (by decide) (gcal_of rfl rfl rfl (Nat.le_of_ble_eq_true rfl) (gJ.recv (G := gGG) sq9.1 tsk rfl rfl)) (cw_putMarker _ sq9.1 sk tsk 216 ⟨by omega, by omega⟩ bt s11 tbt fq9_0 efq9_0 ⟨by omega, by omega⟩ (0, 0, 0, fun _ => 0) (by omega) (by omega) uq yq9_1 yq9_0) (fun q21 _ wq21 => ?_)
  obtain ⟨pq21, oq21, hq21⟩ := q21
  obtain ⟨tyq21, xq21, cq21_0, ttq21, fq21_0, ecq21_0, tcq21_0, gq21, efq21_0, afq21_0, bfq21_0, uq21_0, uq21_1, uq21_2, uq21_3, uq21_4, uq21_5, uq21_6, uq21_7, yq21_0, yq21_1⟩ := wq21
  dsimp only at uq21_4 uq21_5 uq21_6 uq21_7
  refine ⟨_, gq21, ?_⟩
  show gz gPP gGG gcn _ _ 25 [some (.ref x), some (.ref dr), none] [] hq21 _
  have G22 : gSg [114] [] [56000, 56001, 56002, 56003, 71006, 114999] ty h tyq21 hq21 := gSg.tr (gSg.ss G0 sq9 (by decide)) xq21 (by decide) (by decide) (fun x hx => by cases hx)
  have t23 : tyq21 x = 71 := gSg.typ xq21 sq9.1 tx rfl
  have t24 : tyq21 dr = 55 := gSg.typ xq21 sq9.1 tdr rfl
  have t25 : tyq21 sk = 56 := gSg.typ xq21 sq9.1 tsk rfl
  have t26 : tyq21 bt = 114 := gSg.typ xq21 sq9.1 tbt rfl
  have hl27 : hq21.2.2.2.1 bt = hq9.2.2.2.1 bt := gSg.len xq21 sq9.1 tbt rfl
  have s28 := gSg.at xq21 sq9.1 tx rfl (by decide) s10
  have s29 := gSg.at xq21 sq9.1 tdr rfl (by decide) s12
  have s30 := gSg.at xq21 sq9.1 tdr rfl (by decide) s13
  have s31 := gSg.at xq21 sq9.1 tdr rfl (by decide) s14
  have s32 := gSg.at xq21 sq9.1 tdr rfl (by decide) s15
  have s33 := gSg.at xq21 sq9.1 tx rfl (by decide) s16
  have s34 := gSg.at xq21 sq9.1 tsk rfl (by decide) efq9_1
  have s35 := gSg.at xq21 sq9.1 tsk rfl (by decide) efq9_2
  have pr36 := gRn.gr xq21 sq9.1 rfl (by decide) (by decide) pr17
  have uq37 := gSg.uq xq21 uq (by decide)
  have sS38 : gSs rT 1027 tyq21 [56000, 56001, 56002, 56003, 71006, 114999] hq21 hq21 := gSs.rf xq21.1
  refine gz_s 1 (pc' := 26) (L' := [some (.ref x), some (.ref dr), none]) (S' := [.ref x]) rfl ?_
  refine gs_gtk rfl (by decide) rfl sS38.1 t23 rfl rfl s28 ?_
  refine gz_s 1 (pc' := 32) (L' := [some (.ref x), some (.ref dr), none]) (S' := [.int (zi 219), .ref sk]) rfl ?_
  have hl39 : hq21.2.2.2.1 cq21_0 = hq21.2.2.2.1 cq21_0 := congrFun sS38.2.2.2.2.1 cq21_0
  refine gz_call rfl (by decide) rfl (by decide) (by decide) (gcal_of rfl rfl rfl (Nat.le_of_ble_eq_true rfl) (gJ.recv (G := gGG) sS38.1 t25 rfl rfl)) (cw_putMarker _ sS38.1 sk t25 219 ⟨by omega, by omega⟩ cq21_0 ecq21_0 tcq21_0 fq21_0 efq21_0 ⟨by omega, by omega⟩ (eeM (0, 0, 0, fun _ => 0) 216) (by omega) (by omega) uq37 yq21_0 yq21_1) (fun q40 _ wq40 => ?_)
  obtain ⟨pq40, oq40, hq40⟩ := q40
  obtain ⟨tyq40, xq40, cq40_0, ttq40, fq40_0, ecq40_0, tcq40_0, gq40, efq40_0, afq40_0, bfq40_0, uq40_0, uq40_1, uq40_2, uq40_3, uq40_4, uq40_5, uq40_6, uq40_7, yq40_0, yq40_1⟩ := wq40
  dsimp only at uq40_4 uq40_5 uq40_6 uq40_7
  refine ⟨_, gq40, ?_⟩
  show gz gPP gGG gcn _ _ 35 [some (.ref x), some (.ref dr), none] [] hq40 _
  have G41 : gSg [114] [] [56000, 56001, 56002, 56003, 71006, 114999] ty h tyq40 hq40 := gSg.tr (gSg.ss G22 sS38 (by decide)) xq40 (by decide) (by decide) (fun x hx => by cases hx)
  have t42 : tyq40 x = 71 := gSg.typ xq40 sS38.1 t23 rfl
  have t43 : tyq40 dr = 55 := gSg.typ xq40 sS38.1 t24 rfl
  have t44 : tyq40 sk = 56 := gSg.typ xq40 sS38.1 t25 rfl
  have t45 : tyq40 bt = 114 := gSg.typ xq40 sS38.1 t26 rfl
  have hl46 : hq40.2.2.2.1 bt = hq21.2.2.2.1 bt := gSg.len xq40 sS38.1 t26 rfl
  have t47 : tyq40 cq21_0 = 114 := gSg.typ xq40 sS38.1 tcq21_0 rfl
  have hl48 : hq40.2.2.2.1 cq21_0 = hq21.2.2.2.1 cq21_0 := gSg.len xq40 sS38.1 tcq21_0 rfl
  have s49 := gSg.at xq40 sS38.1 t23 rfl (by decide) s28
  have s50 := gSg.at xq40 sS38.1 t24 rfl (by decide) s29
  have s51 := gSg.at xq40 sS38.1 t24 rfl (by decide) s30
  have s52 := gSg.at xq40 sS38.1 t24 rfl (by decide) s31
  have s53 := gSg.at xq40 sS38.1 t24 rfl (by decide) s32
  have s54 := gSg.at xq40 sS38.1 t23 rfl (by decide) s33
  have s55 := gSg.at xq40 sS38.1 t25 rfl (by decide) s34
  have s56 := gSg.at xq40 sS38.1 t25 rfl (by decide) s35
  have pr57 := gRn.gr xq40 sS38.1 rfl (by decide) (by decide) pr36
  have uq58 := gSg.uq xq40 uq37 (by decide)
  have sS59 : gSs rT 1027 tyq40 [56000, 56001, 56002, 56003, 71006, 114999] hq40 hq40 := gSs.rf xq40.1
  refine gz_s 1 (pc' := 36) (L' := [some (.ref x), some (.ref dr), none]) (S' := [.ref x]) rfl ?_
  refine gs_gtk rfl (by decide) rfl sS59.1 t42 rfl rfl s49 ?_
  refine gz_s 1 (pc' := 41) (L' := [some (.ref x), some (.ref dr), none]) (S' := [.int (zi 67), .ref sk]) rfl ?_
  have hl60 : hq40.2.2.2.1 cq40_0 = hq40.2.2.2.1 cq40_0 := congrFun sS59.2.2.2.2.1 cq40_0
  refine gz_call rfl (by decide) rfl (by decide) (by decide) (gcal_of rfl rfl rfl (Nat.le_of_ble_eq_true rfl) (gJ.recv (G := gGG) sS59.1 t44 rfl rfl)) (cw_putTwo _ sS59.1 sk t44 67 ⟨by omega, by omega⟩ cq40_0 ecq40_0 tcq40_0 fq40_0 efq40_0 ⟨by omega, by omega⟩ (eeM (eeM (0, 0, 0, fun _ => 0) 216) 219) (by omega) (by omega) uq58 yq40_0 yq40_1) (fun q61 _ wq61 => ?_)
  obtain ⟨pq61, oq61, hq61⟩ := q61
  obtain ⟨tyq61, xq61, cq61_0, ttq61, fq61_0, ecq61_0, tcq61_0, gq61, efq61_0, afq61_0, bfq61_0, uq61_0, uq61_1, uq61_2, uq61_3, uq61_4, uq61_5, uq61_6, uq61_7, yq61_0, yq61_1⟩ := wq61
  dsimp only at uq61_4 uq61_5 uq61_6 uq61_7
  refine ⟨_, gq61, ?_⟩
  show gz gPP gGG gcn _ _ 44 [some (.ref x), some (.ref dr), none] [] hq61 _
  have G62 : gSg [114] [] [56000, 56001, 56002, 56003, 71006, 114999] ty h tyq61 hq61 := gSg.tr (gSg.ss G41 sS59 (by decide)) xq61 (by decide) (by decide) (fun x hx => by cases hx)
  have t63 : tyq61 x = 71 := gSg.typ xq61 sS59.1 t42 rfl
  have t64 : tyq61 dr = 55 := gSg.typ xq61 sS59.1 t43 rfl
  have t65 : tyq61 sk = 56 := gSg.typ xq61 sS59.1 t44 rfl
  have t66 : tyq61 bt = 114 := gSg.typ xq61 sS59.1 t45 rfl
  have hl67 : hq61.2.2.2.1 bt = hq40.2.2.2.1 bt := gSg.len xq61 sS59.1 t45 rfl
  have t68 : tyq61 cq21_0 = 114 := gSg.typ xq61 sS59.1 t47 rfl
  have hl69 : hq61.2.2.2.1 cq21_0 = hq40.2.2.2.1 cq21_0 := gSg.len xq61 sS59.1 t47 rfl
  have t70 : tyq61 cq40_0 = 114 := gSg.typ xq61 sS59.1 tcq40_0 rfl
  have hl71 : hq61.2.2.2.1 cq40_0 = hq40.2.2.2.1 cq40_0 := gSg.len xq61 sS59.1 tcq40_0 rfl
  have s72 := gSg.at xq61 sS59.1 t42 rfl (by decide) s49
  have s73 := gSg.at xq61 sS59.1 t43 rfl (by decide) s50
  have s74 := gSg.at xq61 sS59.1 t43 rfl (by decide) s51
  have s75 := gSg.at xq61 sS59.1 t43 rfl (by decide) s52
  have s76 := gSg.at xq61 sS59.1 t43 rfl (by decide) s53
  have s77 := gSg.at xq61 sS59.1 t42 rfl (by decide) s54
  have s78 := gSg.at xq61 sS59.1 t44 rfl (by decide) s55
  have s79 := gSg.at xq61 sS59.1 t44 rfl (by decide) s56
  have pr80 := gRn.gr xq61 sS59.1 rfl (by decide) (by decide) pr57
  have uq81 := gSg.uq xq61 uq58 (by decide)
  have sS82 : gSs rT 1027 tyq61 [56000, 56001, 56002, 56003, 71006, 114999] hq61 hq61 := gSs.rf xq61.1
  refine gz_s 1 (pc' := 45) (L' := [some (.ref x), some (.ref dr), none]) (S' := [.ref x]) rfl ?_
  refine gs_gtk rfl (by decide) rfl sS82.1 t63 rfl rfl s72 ?_
  refine gz_s 1 (pc' := 49) (L' := [some (.ref x), some (.ref dr), none]) (S' := [.int (zi 0), .ref sk]) rfl ?_
  have hl83 : hq61.2.2.2.1 cq61_0 = hq61.2.2.2.1 cq61_0 := congrFun sS82.2.2.2.2.1 cq61_0
  refine gz_call rfl (by decide) rfl (by decide) (by decide) (gcal_of rfl rfl rfl (Nat.le_of_ble_eq_true rfl) (gJ.recv (G := gGG) sS82.1 t65 rfl rfl)) (cw_putByte _ sS82.1 sk t65 0 ⟨by omega, by omega⟩ cq61_0 ecq61_0 tcq61_0 fq61_0 efq61_0 ⟨by omega, by omega⟩ (eeT (eeM (eeM (0, 0, 0, fun _ => 0) 216) 219) 67) (by omega) (by omega) uq81 yq61_0 yq61_1) (fun q84 _ wq84 => ?_)
  obtain ⟨pq84, oq84, hq84⟩ := q84
  obtain ⟨tyq84, xq84, cq84_0, ttq84, fq84_0, ecq84_0, tcq84_0, gq84, efq84_0, afq84_0, bfq84_0, uq84_0, uq84_1, uq84_2, uq84_3, uq84_4, uq84_5, uq84_6, uq84_7, yq84_0, yq84_1⟩ := wq84
  dsimp only at uq84_4 uq84_5 uq84_6 uq84_7
  refine ⟨_, gq84, ?_⟩
  show gz gPP gGG gcn _ _ 52 [some (.ref x), some (.ref dr), none] [] hq84 _
  have G85 : gSg [114] [] [56000, 56001, 56002, 56003, 71006, 114999] ty h tyq84 hq84 := gSg.tr (gSg.ss G62 sS82 (by decide)) xq84 (by decide) (by decide) (fun x hx => by cases hx)
  have t86 : tyq84 x = 71 := gSg.typ xq84 sS82.1 t63 rfl
  have t87 : tyq84 dr = 55 := gSg.typ xq84 sS82.1 t64 rfl
  have t88 : tyq84 sk = 56 := gSg.typ xq84 sS82.1 t65 rfl
  have t89 : tyq84 bt = 114 := gSg.typ xq84 sS82.1 t66 rfl
  have hl90 : hq84.2.2.2.1 bt = hq61.2.2.2.1 bt := gSg.len xq84 sS82.1 t66 rfl
  have t91 : tyq84 cq21_0 = 114 := gSg.typ xq84 sS82.1 t68 rfl
  have hl92 : hq84.2.2.2.1 cq21_0 = hq61.2.2.2.1 cq21_0 := gSg.len xq84 sS82.1 t68 rfl
  have t93 : tyq84 cq40_0 = 114 := gSg.typ xq84 sS82.1 t70 rfl
  have hl94 : hq84.2.2.2.1 cq40_0 = hq61.2.2.2.1 cq40_0 := gSg.len xq84 sS82.1 t70 rfl
  have t95 : tyq84 cq61_0 = 114 := gSg.typ xq84 sS82.1 tcq61_0 rfl
  have hl96 : hq84.2.2.2.1 cq61_0 = hq61.2.2.2.1 cq61_0 := gSg.len xq84 sS82.1 tcq61_0 rfl
  have s97 := gSg.at xq84 sS82.1 t63 rfl (by decide) s72
  have s98 := gSg.at xq84 sS82.1 t64 rfl (by decide) s73
  have s99 := gSg.at xq84 sS82.1 t64 rfl (by decide) s74
  have s100 := gSg.at xq84 sS82.1 t64 rfl (by decide) s75
  have s101 := gSg.at xq84 sS82.1 t64 rfl (by decide) s76
  have s102 := gSg.at xq84 sS82.1 t63 rfl (by decide) s77
  have s103 := gSg.at xq84 sS82.1 t65 rfl (by decide) s78
  have s104 := gSg.at xq84 sS82.1 t65 rfl (by decide) s79
  have pr105 := gRn.gr xq84 sS82.1 rfl (by decide) (by decide) pr80
  have uq106 := gSg.uq xq84 uq81 (by decide)
  have sS107 : gSs rT 1027 tyq84 [56000, 56001, 56002, 56003, 71006, 114999] hq84 hq84 := gSs.rf xq84.1
  refine gz_s 2 (pc' := 54) (L' := [some (.ref x), some (.ref dr), some (.int (zi 0))]) (S' := []) rfl ?_
  have hk109 : eHt tb (eeB (eeT (eeM (eeM (0, 0, 0, fun _ => 0) 216) 219) 67) 0) (0 : Int).toNat = eeB (eeT (eeM (eeM (0, 0, 0, fun _ => 0) 216) 219) 67) 0 := rfl
  have hk109_1 : (eHt tb (eeB (eeT (eeM (eeM (0, 0, 0, fun _ => 0) 216) 219) 67) 0) (0 : Int).toNat).1 = (eeB (eeT (eeM (eeM (0, 0, 0, fun _ => 0) 216) 219) 67) 0).1 := by rw [hk109]
  have hk109_21 : (eHt tb (eeB (eeT (eeM (eeM (0, 0, 0, fun _ => 0) 216) 219) 67) 0) (0 : Int).toNat).2.1 = (eeB (eeT (eeM (eeM (0, 0, 0, fun _ => 0) 216) 219) 67) 0).2.1 := by rw [hk109]
  have hk109_221 : (eHt tb (eeB (eeT (eeM (eeM (0, 0, 0, fun _ => 0) 216) 219) 67) 0) (0 : Int).toNat).2.2.1 = (eeB (eeT (eeM (eeM (0, 0, 0, fun _ => 0) 216) 219) 67) 0).2.2.1 := by rw [hk109]
  have hsw110 : gSW tyq84 cq84_0 (eHt tb (eeB (eeT (eeM (eeM (0, 0, 0, fun _ => 0) 216) 219) 67) 0) (0 : Int).toNat) hq84 := by rw [hk109]; exact yq84_0
  have hok111 : eeOk (eHt tb (eeB (eeT (eeM (eeM (0, 0, 0, fun _ => 0) 216) 219) 67) 0) (0 : Int).toNat) := by rw [hk109]; exact yq84_1
  have hoc112 := hok111.cur
  have lp108 : ∀ (fu : Nat) (ty114 : Nat → Nat) (h113 : gH) (bv : Nat) (i : Int) (cv : Int), (65 - i).toNat < fu → gSg [114] [] [56000, 56001, 56002, 56003, 71006, 114999] ty h ty114 h113 → gUq ty114 → ty114 x = 71 → ty114 dr = 55 → ty114 sk = 56 → h113.2.2.2.2 sk 0 = .ref bv → ty114 bv = 114 → (0 ≤ i ∧ i ≤ 64) → (0 ≤ cv ∧ cv ≤ 499999) → (cv = 7 + i) → (cv = (eHt tb (eeB (eeT (eeM (eeM (0, 0, 0, fun _ => 0) 216) 219) 67) 0) (i).toNat).1) → ((eHt tb (eeB (eeT (eeM (eeM (0, 0, 0, fun _ => 0) 216) 219) 67) 0) (i).toNat).2.1 = 0) → ((eHt tb (eeB (eeT (eeM (eeM (0, 0, 0, fun _ => 0) 216) 219) 67) 0) (i).toNat).2.2.1 = 0) → (1024 * ((h113.1 : Int) - h.1) ≤ (h113.2.2.2.1 bv : Int) - h.2.2.2.1 bt) → (((h113.2.1 : Int) - h.2.1) ≤ 2 * ((h113.2.2.2.1 bv : Int) - h.2.2.2.1 bt)) → ((h.2.2.2.1 bt : Int) ≤ (h113.2.2.2.1 bv : Int)) → (cv ≤ (h113.2.2.2.1 bv : Int)) → h113.2.2.2.2 x 0 = .ref sk → h113.2.2.2.2 dr 3 = .int (zi iv0) → h113.2.2.2.2 dr 8 = .int (zi sc) → h113.2.2.2.2 dr 2 = .int (zi hh) → h113.2.2.2.2 dr 1 = .int (zi ww) → h113.2.2.2.2 x 6 = .int (zi iv0) → h113.2.2.2.2 sk 2 = .int (zi fq9_1) → h113.2.2.2.2 sk 3 = .int (zi fq9_2) → h113.2.2.2.2 sk 1 = .int (zi cv) → gRn 64 ty114 72 tb h113 → gSW ty114 bv (eHt tb (eeB (eeT (eeM (eeM (0, 0, 0, fun _ => 0) 216) 219) 67) 0) (i).toNat) h113 → eeOk (eHt tb (eeB (eeT (eeM (eeM (0, 0, 0, fun _ => 0) 216) 219) 67) 0) (i).toNat) → gz gPP gGG gcn (d + 4) gt99 54 [some (.ref x), some (.ref dr), some (.int (zi i))] [] h113 (fun q _ => ∃ ty9 : Nat → Nat, gSg [114] [] [56000, 56001, 56002, 56003, 71006, 114999] ty h ty9 q.2.2 ∧ ∃ bt2 : Nat, True ∧ ∃ c1 u1 h1 iv1 : Int, q.2.2.2.2.2.2 sk 0 = .ref bt2 ∧ ty9 bt2 = 114 ∧ gfin gt99 q.1 q.2.1 = some none ∧ q.2.2.2.2.2.2 sk 1 = .int (zi c1) ∧ 0 ≤ c1 ∧ c1 ≤ 500000 ∧ q.2.2.2.2.2.2 sk 2 = .int (zi u1) ∧ 0 ≤ u1 ∧ u1 ≤ 127 ∧ q.2.2.2.2.2.2 sk 3 = .int (zi h1) ∧ 0 ≤ h1 ∧ h1 ≤ 7 ∧ q.2.2.2.2.2.2 x 6 = .int (zi iv1) ∧ 0 ≤ iv1 ∧ iv1 ≤ 100 ∧ (iv1 = iv0) ∧ (c1 ≤ 100) ∧ (h1 = 0) ∧ (u1 = 0) ∧ (c1 = (eHd tb sc hh ww iv0).1) ∧ (u1 = (eHd tb sc hh ww iv0).2.1) ∧ (h1 = (eHd tb sc hh ww iv0).2.2.1) ∧ (1024 * ((q.2.2.1 : Int) - h.1) ≤ (q.2.2.2.2.2.1 bt2 : Int) - h.2.2.2.1 bt) ∧ (((q.2.2.2.1 : Int) - h.2.1) ≤ 2 * ((q.2.2.2.2.2.1 bt2 : Int) - h.2.2.2.1 bt)) ∧ ((h.2.2.2.1 bt : Int) ≤ (q.2.2.2.2.2.1 bt2 : Int)) ∧ (c1 ≤ (q.2.2.2.2.2.1 bt2 : Int)) ∧ (gSW ty9 bt2 (eHd tb sc hh ww iv0) q.2.2) ∧ (eeOk (eHd tb sc hh ww iv0))) := by
    intro fu
    induction fu with
    | zero => intro ty114 h113 bv i cv hm; exact absurd hm (Nat.not_lt_zero _)
    | succ fu ihlp108 =>
      intro ty114 h113 bv i cv lp108m lp108G lp108u lp108c0 lp108c1 lp108c2 lp108r0 lp108r1 lp108f0 lp108f1 lp108f2 lp108f3 lp108f4 lp108f5 lp108f6 lp108f7 lp108f8 lp108f9 lp108k0 lp108k1 lp108k2 lp108k3 lp108k4 lp108k5 lp108k6 lp108k7 lp108k8 lp108k9 lp108k10 lp108k11
      have sh113 : gSs rT 1027 ty114 [56000, 56001, 56002, 56003, 71006, 114999] h113 h113 := gSs.rf lp108G.1
      refine gz_s 2 (pc' := 57) (L' := [some (.ref x), some (.ref dr), some (.int (zi i))]) (S' := [.int (zi 64), .int (zi i)]) rfl ?_
      by_cases hc115 : (64 : Int) ≤ i
      · refine gy_icT (pc' := 79) rfl (by decide) (by decide) (by omega) (by omega) hc115 ?_
        have hk116 : eHt tb (eeB (eeT (eeM (eeM (0, 0, 0, fun _ => 0) 216) 219) 67) 0) 64 = eHt tb (eeB (eeT (eeM (eeM (0, 0, 0, fun _ => 0) 216) 219) 67) 0) (i).toNat := by rw [(by omega : (i).toNat = 64)]
        have hk116_1 : (eHt tb (eeB (eeT (eeM (eeM (0, 0, 0, fun _ => 0) 216) 219) 67) 0) 64).1 = (eHt tb (eeB (eeT (eeM (eeM (0, 0, 0, fun _ => 0) 216) 219) 67) 0) (i).toNat).1 := by rw [hk116]
        have hk116_21 : (eHt tb (eeB (eeT (eeM (eeM (0, 0, 0, fun _ => 0) 216) 219) 67) 0) 64).2.1 = (eHt tb (eeB (eeT (eeM (eeM (0, 0, 0, fun _ => 0) 216) 219) 67) 0) (i).toNat).2.1 := by rw [hk116]
        have hk116_221 : (eHt tb (eeB (eeT (eeM (eeM (0, 0, 0, fun _ => 0) 216) 219) 67) 0) 64).2.2.1 = (eHt tb (eeB (eeT (eeM (eeM (0, 0, 0, fun _ => 0) 216) 219) 67) 0) (i).toNat).2.2.1 := by rw [hk116]
        have hsw117 : gSW ty114 bv (eHt tb (eeB (eeT (eeM (eeM (0, 0, 0, fun _ => 0) 216) 219) 67) 0) 64) h113 := by rw [hk116]; exact lp108k10
        have hok118 : eeOk (eHt tb (eeB (eeT (eeM (eeM (0, 0, 0, fun _ => 0) 216) 219) 67) 0) 64) := by rw [hk116]; exact lp108k11
        have hoc119 := hok118.cur
        have hkT := eHt_k tb (eeB (eeT (eeM (eeM (0, 0, 0, fun _ => 0) 216) 219) 67) 0) 64
        refine gz_s 1 (pc' := 80) (L' := [some (.ref x), some (.ref dr), some (.int (zi i))]) (S' := [.ref x]) rfl ?_
        refine gs_gtk rfl (by decide) rfl sh113.1 lp108c0 rfl rfl lp108k0 ?_
        refine gz_s 1 (pc' := 84) (L' := [some (.ref x), some (.ref dr), some (.int (zi i))]) (S' := [.ref dr, .ref sk]) rfl ?_
        refine gs_gtk rfl (by decide) rfl sh113.1 lp108c1 rfl rfl lp108k2 ?_
        by_cases hc120 : (sc : Int) ≤ 0
        · refine gy_ifT (pc' := 96) rfl (by decide) (by decide) (by omega) hc120 ?_
          refine gz_s 1 (pc' := 99) (L' := [some (.ref x), some (.ref dr), some (.int (zi i))]) (S' := [.int (zi 192), .ref sk]) rfl ?_
          have hl121 : h113.2.2.2.1 bv = h113.2.2.2.1 bv := congrFun sh113.2.2.2.2.1 bv
          refine gz_call rfl (by decide) rfl (by decide) (by decide) (gcal_of rfl rfl rfl (Nat.le_of_ble_eq_true rfl) (gJ.recv (G := gGG) sh113.1 lp108c2 rfl rfl)) (cw_putMarker _ sh113.1 sk lp108c2 192 ⟨by omega, by omega⟩ bv lp108r0 lp108r1 cv lp108k8 ⟨by omega, by omega⟩ (eHt tb (eeB (eeT (eeM (eeM (0, 0, 0, fun _ => 0) 216) 219) 67) 0) 64) (by omega) (by omega) lp108u hsw117 hok118) (fun q122 _ wq122 => ?_)
          obtain ⟨pq122, oq122, hq122⟩ := q122
          obtain ⟨tyq122, xq122, cq122_0, ttq122, fq122_0, ecq122_0, tcq122_0, gq122, efq122_0, afq122_0, bfq122_0, uq122_0, uq122_1, uq122_2, uq122_3, uq122_4, uq122_5, uq122_6, uq122_7, yq122_0, yq122_1⟩ := wq122
          dsimp only at uq122_4 uq122_5 uq122_6 uq122_7
          refine ⟨_, gq122, ?_⟩
          show gz gPP gGG gcn _ _ 102 [some (.ref x), some (.ref dr), some (.int (zi i))] [] hq122 _
          have G123 : gSg [114] [] [56000, 56001, 56002, 56003, 71006, 114999] ty h tyq122 hq122 := gSg.tr (gSg.ss lp108G sh113 (by decide)) xq122 (by decide) (by decide) (fun x hx => by cases hx)
          have t124 : tyq122 x = 71 := gSg.typ xq122 sh113.1 lp108c0 rfl
          have t125 : tyq122 dr = 55 := gSg.typ xq122 sh113.1 lp108c1 rfl
          have t126 : tyq122 sk = 56 := gSg.typ xq122 sh113.1 lp108c2 rfl
          have t127 : tyq122 bv = 114 := gSg.typ xq122 sh113.1 lp108r1 rfl
          have hl128 : hq122.2.2.2.1 bv = h113.2.2.2.1 bv := gSg.len xq122 sh113.1 lp108r1 rfl
          have s129 := gSg.at xq122 sh113.1 lp108c0 rfl (by decide) lp108k0
          have s130 := gSg.at xq122 sh113.1 lp108c1 rfl (by decide) lp108k1
          have s131 := gSg.at xq122 sh113.1 lp108c1 rfl (by decide) lp108k2
          have s132 := gSg.at xq122 sh113.1 lp108c1 rfl (by decide) lp108k3
          have s133 := gSg.at xq122 sh113.1 lp108c1 rfl (by decide) lp108k4
          have s134 := gSg.at xq122 sh113.1 lp108c0 rfl (by decide) lp108k5
          have s135 := gSg.at xq122 sh113.1 lp108c2 rfl (by decide) lp108k6
          have s136 := gSg.at xq122 sh113.1 lp108c2 rfl (by decide) lp108k7
          have pr137 := gRn.gr xq122 sh113.1 rfl (by decide) (by decide) lp108k9
          have uq138 := gSg.uq xq122 lp108u (by decide)
          have sS139 : gSs rT 1027 tyq122 [56000, 56001, 56002, 56003, 71006, 114999] hq122 hq122 := gSs.rf xq122.1
          refine gz_s 1 (pc' := 103) (L' := [some (.ref x), some (.ref dr), some (.int (zi i))]) (S' := [.ref x]) rfl ?_
          refine gs_gtk rfl (by decide) rfl sS139.1 t124 rfl rfl s129 ?_
          refine gz_s 1 (pc' := 108) (L' := [some (.ref x), some (.ref dr), some (.int (zi i))]) (S' := [.int (zi 11), .ref sk]) rfl ?_
          have hl140 : hq122.2.2.2.1 cq122_0 = hq122.2.2.2.1 cq122_0 := congrFun sS139.2.2.2.2.1 cq122_0
          refine gz_call rfl (by decide) rfl (by decide) (by decide) (gcal_of rfl rfl rfl (Nat.le_of_ble_eq_true rfl) (gJ.recv (G := gGG) sS139.1 t126 rfl rfl)) (cw_putTwo _ sS139.1 sk t126 11 ⟨by omega, by omega⟩ cq122_0 ecq122_0 tcq122_0 fq122_0 efq122_0 ⟨by omega, by omega⟩ (eeM (eHt tb (eeB (eeT (eeM (eeM (0, 0, 0, fun _ => 0) 216) 219) 67) 0) 64) 192) (by omega) (by omega) uq138 yq122_0 yq122_1) (fun q141 _ wq141 => ?_)
          obtain ⟨pq141, oq141, hq141⟩ := q141
          obtain ⟨tyq141, xq141, cq141_0, ttq141, fq141_0, ecq141_0, tcq141_0, gq141, efq141_0, afq141_0, bfq141_0, uq141_0, uq141_1, uq141_2, uq141_3, uq141_4, uq141_5, uq141_6, uq141_7, yq141_0, yq141_1⟩ := wq141
          dsimp only at uq141_4 uq141_5 uq141_6 uq141_7
          refine ⟨_, gq141, ?_⟩
          show gz gPP gGG gcn _ _ 111 [some (.ref x), some (.ref dr), some (.int (zi i))] [] hq141 _
          have G142 : gSg [114] [] [56000, 56001, 56002, 56003, 71006, 114999] ty h tyq141 hq141 := gSg.tr (gSg.ss G123 sS139 (by decide)) xq141 (by decide) (by decide) (fun x hx => by cases hx)
          have t143 : tyq141 x = 71 := gSg.typ xq141 sS139.1 t124 rfl
          have t144 : tyq141 dr = 55 := gSg.typ xq141 sS139.1 t125 rfl
          have t145 : tyq141 sk = 56 := gSg.typ xq141 sS139.1 t126 rfl
          have t146 : tyq141 bv = 114 := gSg.typ xq141 sS139.1 t127 rfl
          have hl147 : hq141.2.2.2.1 bv = hq122.2.2.2.1 bv := gSg.len xq141 sS139.1 t127 rfl
          have t148 : tyq141 cq122_0 = 114 := gSg.typ xq141 sS139.1 tcq122_0 rfl
          have hl149 : hq141.2.2.2.1 cq122_0 = hq122.2.2.2.1 cq122_0 := gSg.len xq141 sS139.1 tcq122_0 rfl
          have s150 := gSg.at xq141 sS139.1 t124 rfl (by decide) s129
          have s151 := gSg.at xq141 sS139.1 t125 rfl (by decide) s130
          have s152 := gSg.at xq141 sS139.1 t125 rfl (by decide) s131
          have s153 := gSg.at xq141 sS139.1 t125 rfl (by decide) s132
          have s154 := gSg.at xq141 sS139.1 t125 rfl (by decide) s133
          have s155 := gSg.at xq141 sS139.1 t124 rfl (by decide) s134
          have s156 := gSg.at xq141 sS139.1 t126 rfl (by decide) s135
          have s157 := gSg.at xq141 sS139.1 t126 rfl (by decide) s136
          have pr158 := gRn.gr xq141 sS139.1 rfl (by decide) (by decide) pr137
          have uq159 := gSg.uq xq141 uq138 (by decide)
          have sS160 : gSs rT 1027 tyq141 [56000, 56001, 56002, 56003, 71006, 114999] hq141 hq141 := gSs.rf xq141.1
          refine gz_s 1 (pc' := 112) (L' := [some (.ref x), some (.ref dr), some (.int (zi i))]) (S' := [.ref x]) rfl ?_
          refine gs_gtk rfl (by decide) rfl sS160.1 t143 rfl rfl s150 ?_
          refine gz_s 1 (pc' := 117) (L' := [some (.ref x), some (.ref dr), some (.int (zi i))]) (S' := [.int (zi 8), .ref sk]) rfl ?_
          have hl161 : hq141.2.2.2.1 cq141_0 = hq141.2.2.2.1 cq141_0 := congrFun sS160.2.2.2.2.1 cq141_0
          refine gz_call rfl (by decide) rfl (by decide) (by decide) (gcal_of rfl rfl rfl (Nat.le_of_ble_eq_true rfl) (gJ.recv (G := gGG) sS160.1 t145 rfl rfl)) (cw_putByte _ sS160.1 sk t145 8 ⟨by omega, by omega⟩ cq141_0 ecq141_0 tcq141_0 fq141_0 efq141_0 ⟨by omega, by omega⟩ (eeT (eeM (eHt tb (eeB (eeT (eeM (eeM (0, 0, 0, fun _ => 0) 216) 219) 67) 0) 64) 192) 11) (by omega) (by omega) uq159 yq141_0 yq141_1) (fun q162 _ wq162 => ?_)
          obtain ⟨pq162, oq162, hq162⟩ := q162
          obtain ⟨tyq162, xq162, cq162_0, ttq162, fq162_0, ecq162_0, tcq162_0, gq162, efq162_0, afq162_0, bfq162_0, uq162_0, uq162_1, uq162_2, uq162_3, uq162_4, uq162_5, uq162_6, uq162_7, yq162_0, yq162_1⟩ := wq162
          dsimp only at uq162_4 uq162_5 uq162_6 uq162_7
          refine ⟨_, gq162, ?_⟩
          show gz gPP gGG gcn _ _ 120 [some (.ref x), some (.ref dr), some (.int (zi i))] [] hq162 _
          have G163 : gSg [114] [] [56000, 56001, 56002, 56003, 71006, 114999] ty h tyq162 hq162 := gSg.tr (gSg.ss G142 sS160 (by decide)) xq162 (by decide) (by decide) (fun x hx => by cases hx)
          have t164 : tyq162 x = 71 := gSg.typ xq162 sS160.1 t143 rfl
          have t165 : tyq162 dr = 55 := gSg.typ xq162 sS160.1 t144 rfl
          have t166 : tyq162 sk = 56 := gSg.typ xq162 sS160.1 t145 rfl
          have t167 : tyq162 bv = 114 := gSg.typ xq162 sS160.1 t146 rfl
          have hl168 : hq162.2.2.2.1 bv = hq141.2.2.2.1 bv := gSg.len xq162 sS160.1 t146 rfl
          have t169 : tyq162 cq122_0 = 114 := gSg.typ xq162 sS160.1 t148 rfl
          have hl170 : hq162.2.2.2.1 cq122_0 = hq141.2.2.2.1 cq122_0 := gSg.len xq162 sS160.1 t148 rfl
          have t171 : tyq162 cq141_0 = 114 := gSg.typ xq162 sS160.1 tcq141_0 rfl
          have hl172 : hq162.2.2.2.1 cq141_0 = hq141.2.2.2.1 cq141_0 := gSg.len xq162 sS160.1 tcq141_0 rfl
          have s173 := gSg.at xq162 sS160.1 t143 rfl (by decide) s150
          have s174 := gSg.at xq162 sS160.1 t144 rfl (by decide) s151
          have s175 := gSg.at xq162 sS160.1 t144 rfl (by decide) s152
          have s176 := gSg.at xq162 sS160.1 t144 rfl (by decide) s153
          have s177 := gSg.at xq162 sS160.1 t144 rfl (by decide) s154
          have s178 := gSg.at xq162 sS160.1 t143 rfl (by decide) s155
          have s179 := gSg.at xq162 sS160.1 t145 rfl (by decide) s156
          have s180 := gSg.at xq162 sS160.1 t145 rfl (by decide) s157
          have pr181 := gRn.gr xq162 sS160.1 rfl (by decide) (by decide) pr158
          have uq182 := gSg.uq xq162 uq159 (by decide)
          have sS183 : gSs rT 1027 tyq162 [56000, 56001, 56002, 56003, 71006, 114999] hq162 hq162 := gSs.rf xq162.1
          refine gz_s 1 (pc' := 121) (L' := [some (.ref x), some (.ref dr), some (.int (zi i))]) (S' := [.ref x]) rfl ?_
          refine gs_gtk rfl (by decide) rfl sS183.1 t164 rfl rfl s173 ?_
          refine gz_s 1 (pc' := 125) (L' := [some (.ref x), some (.ref dr), some (.int (zi i))]) (S' := [.ref dr, .ref sk]) rfl ?_
          refine gs_gtk rfl (by decide) rfl sS183.1 t165 rfl rfl s176 ?_
          have hl184 : hq162.2.2.2.1 cq162_0 = hq162.2.2.2.1 cq162_0 := congrFun sS183.2.2.2.2.1 cq162_0
          refine gz_call rfl (by decide) rfl (by decide) (by decide) (gcal_of rfl rfl rfl (Nat.le_of_ble_eq_true rfl) (gJ.recv (G := gGG) sS183.1 t166 rfl rfl)) (cw_putTwo _ sS183.1 sk t166 hh ⟨by omega, by omega⟩ cq162_0 ecq162_0 tcq162_0 fq162_0 efq162_0 ⟨by omega, by omega⟩ (eeB (eeT (eeM (eHt tb (eeB (eeT (eeM (eeM (0, 0, 0, fun _ => 0) 216) 219) 67) 0) 64) 192) 11) 8) (by omega) (by omega) uq182 yq162_0 yq162_1) (fun q185 _ wq185 => ?_)
          obtain ⟨pq185, oq185, hq185⟩ := q185
          obtain ⟨tyq185, xq185, cq185_0, ttq185, fq185_0, ecq185_0, tcq185_0, gq185, efq185_0, afq185_0, bfq185_0, uq185_0, uq185_1, uq185_2, uq185_3, uq185_4, uq185_5, uq185_6, uq185_7, yq185_0, yq185_1⟩ := wq185
          dsimp only at uq185_4 uq185_5 uq185_6 uq185_7
          refine ⟨_, gq185, ?_⟩
          show gz gPP gGG gcn _ _ 131 [some (.ref x), some (.ref dr), some (.int (zi i))] [] hq185 _
          have G186 : gSg [114] [] [56000, 56001, 56002, 56003, 71006, 114999] ty h tyq185 hq185 := gSg.tr (gSg.ss G163 sS183 (by decide)) xq185 (by decide) (by decide) (fun x hx => by cases hx)
          have t187 : tyq185 x = 71 := gSg.typ xq185 sS183.1 t164 rfl
          have t188 : tyq185 dr = 55 := gSg.typ xq185 sS183.1 t165 rfl
          have t189 : tyq185 sk = 56 := gSg.typ xq185 sS183.1 t166 rfl
          have t190 : tyq185 bv = 114 := gSg.typ xq185 sS183.1 t167 rfl
          have hl191 : hq185.2.2.2.1 bv = hq162.2.2.2.1 bv := gSg.len xq185 sS183.1 t167 rfl
          have t192 : tyq185 cq122_0 = 114 := gSg.typ xq185 sS183.1 t169 rfl
          have hl193 : hq185.2.2.2.1 cq122_0 = hq162.2.2.2.1 cq122_0 := gSg.len xq185 sS183.1 t169 rfl
          have t194 : tyq185 cq141_0 = 114 := gSg.typ xq185 sS183.1 t171 rfl
          have hl195 : hq185.2.2.2.1 cq141_0 = hq162.2.2.2.1 cq141_0 := gSg.len xq185 sS183.1 t171 rfl
          have t196 : tyq185 cq162_0 = 114 := gSg.typ xq185 sS183.1 tcq162_0 rfl
          have hl197 : hq185.2.2.2.1 cq162_0 = hq162.2.2.2.1 cq162_0 := gSg.len xq185 sS183.1 tcq162_0 rfl
          have s198 := gSg.at xq185 sS183.1 t164 rfl (by decide) s173
          have s199 := gSg.at xq185 sS183.1 t165 rfl (by decide) s174
          have s200 := gSg.at xq185 sS183.1 t165 rfl (by decide) s175
          have s201 := gSg.at xq185 sS183.1 t165 rfl (by decide) s176
          have s202 := gSg.at xq185 sS183.1 t165 rfl (by decide) s177
          have s203 := gSg.at xq185 sS183.1 t164 rfl (by decide) s178
          have s204 := gSg.at xq185 sS183.1 t166 rfl (by decide) s179
          have s205 := gSg.at xq185 sS183.1 t166 rfl (by decide) s180
          have pr206 := gRn.gr xq185 sS183.1 rfl (by decide) (by decide) pr181
          have uq207 := gSg.uq xq185 uq182 (by decide)
          have sS208 : gSs rT 1027 tyq185 [56000, 56001, 56002, 56003, 71006, 114999] hq185 hq185 := gSs.rf xq185.1
          refine gz_s 1 (pc' := 132) (L' := [some (.ref x), some (.ref dr), some (.int (zi i))]) (S' := [.ref x]) rfl ?_
          refine gs_gtk rfl (by decide) rfl sS208.1 t187 rfl rfl s198 ?_
          refine gz_s 1 (pc' := 136) (L' := [some (.ref x), some (.ref dr), some (.int (zi i))]) (S' := [.ref dr, .ref sk]) rfl ?_
          refine gs_gtk rfl (by decide) rfl sS208.1 t188 rfl rfl s202 ?_
          have hl209 : hq185.2.2.2.1 cq185_0 = hq185.2.2.2.1 cq185_0 := congrFun sS208.2.2.2.2.1 cq185_0
          refine gz_call rfl (by decide) rfl (by decide) (by decide) (gcal_of rfl rfl rfl (Nat.le_of_ble_eq_true rfl) (gJ.recv (G := gGG) sS208.1 t189 rfl rfl)) (cw_putTwo _ sS208.1 sk t189 ww ⟨by omega, by omega⟩ cq185_0 ecq185_0 tcq185_0 fq185_0 efq185_0 ⟨by omega, by omega⟩ (eeT (eeB (eeT (eeM (eHt tb (eeB (eeT (eeM (eeM (0, 0, 0, fun _ => 0) 216) 219) 67) 0) 64) 192) 11) 8) hh) (by omega) (by omega) uq207 yq185_0 yq185_1) (fun q210 _ wq210 => ?_)
          obtain ⟨pq210, oq210, hq210⟩ := q210
          obtain ⟨tyq210, xq210, cq210_0, ttq210, fq210_0, ecq210_0, tcq210_0, gq210, efq210_0, afq210_0, bfq210_0, uq210_0, uq210_1, uq210_2, uq210_3, uq210_4, uq210_5, uq210_6, uq210_7, yq210_0, yq210_1⟩ := wq210
          dsimp only at uq210_4 uq210_5 uq210_6 uq210_7
          refine ⟨_, gq210, ?_⟩
          show gz gPP gGG gcn _ _ 142 [some (.ref x), some (.ref dr), some (.int (zi i))] [] hq210 _
          have G211 : gSg [114] [] [56000, 56001, 56002, 56003, 71006, 114999] ty h tyq210 hq210 := gSg.tr (gSg.ss G186 sS208 (by decide)) xq210 (by decide) (by decide) (fun x hx => by cases hx)
          have t212 : tyq210 x = 71 := gSg.typ xq210 sS208.1 t187 rfl
          have t213 : tyq210 dr = 55 := gSg.typ xq210 sS208.1 t188 rfl
          have t214 : tyq210 sk = 56 := gSg.typ xq210 sS208.1 t189 rfl
          have t215 : tyq210 bv = 114 := gSg.typ xq210 sS208.1 t190 rfl
          have hl216 : hq210.2.2.2.1 bv = hq185.2.2.2.1 bv := gSg.len xq210 sS208.1 t190 rfl
          have t217 : tyq210 cq122_0 = 114 := gSg.typ xq210 sS208.1 t192 rfl
          have hl218 : hq210.2.2.2.1 cq122_0 = hq185.2.2.2.1 cq122_0 := gSg.len xq210 sS208.1 t192 rfl
          have t219 : tyq210 cq141_0 = 114 := gSg.typ xq210 sS208.1 t194 rfl
          have hl220 : hq210.2.2.2.1 cq141_0 = hq185.2.2.2.1 cq141_0 := gSg.len xq210 sS208.1 t194 rfl
          have t221 : tyq210 cq162_0 = 114 := gSg.typ xq210 sS208.1 t196 rfl
          have hl222 : hq210.2.2.2.1 cq162_0 = hq185.2.2.2.1 cq162_0 := gSg.len xq210 sS208.1 t196 rfl
          have t223 : tyq210 cq185_0 = 114 := gSg.typ xq210 sS208.1 tcq185_0 rfl
          have hl224 : hq210.2.2.2.1 cq185_0 = hq185.2.2.2.1 cq185_0 := gSg.len xq210 sS208.1 tcq185_0 rfl
          have s225 := gSg.at xq210 sS208.1 t187 rfl (by decide) s198
          have s226 := gSg.at xq210 sS208.1 t188 rfl (by decide) s199
          have s227 := gSg.at xq210 sS208.1 t188 rfl (by decide) s200
          have s228 := gSg.at xq210 sS208.1 t188 rfl (by decide) s201
          have s229 := gSg.at xq210 sS208.1 t188 rfl (by decide) s202
          have s230 := gSg.at xq210 sS208.1 t187 rfl (by decide) s203
          have s231 := gSg.at xq210 sS208.1 t189 rfl (by decide) s204
          have s232 := gSg.at xq210 sS208.1 t189 rfl (by decide) s205
          have pr233 := gRn.gr xq210 sS208.1 rfl (by decide) (by decide) pr206
          have uq234 := gSg.uq xq210 uq207 (by decide)
          have sS235 : gSs rT 1027 tyq210 [56000, 56001, 56002, 56003, 71006, 114999] hq210 hq210 := gSs.rf xq210.1
          refine gz_s 1 (pc' := 143) (L' := [some (.ref x), some (.ref dr), some (.int (zi i))]) (S' := [.ref x]) rfl ?_
          refine gs_gtk rfl (by decide) rfl sS235.1 t212 rfl rfl s225 ?_
          refine gz_s 1 (pc' := 147) (L' := [some (.ref x), some (.ref dr), some (.int (zi i))]) (S' := [.int (zi 1), .ref sk]) rfl ?_
          have hl236 : hq210.2.2.2.1 cq210_0 = hq210.2.2.2.1 cq210_0 := congrFun sS235.2.2.2.2.1 cq210_0
          refine gz_call rfl (by decide) rfl (by decide) (by decide) (gcal_of rfl rfl rfl (Nat.le_of_ble_eq_true rfl) (gJ.recv (G := gGG) sS235.1 t214 rfl rfl)) (cw_putByte _ sS235.1 sk t214 1 ⟨by omega, by omega⟩ cq210_0 ecq210_0 tcq210_0 fq210_0 efq210_0 ⟨by omega, by omega⟩ (eeT (eeT (eeB (eeT (eeM (eHt tb (eeB (eeT (eeM (eeM (0, 0, 0, fun _ => 0) 216) 219) 67) 0) 64) 192) 11) 8) hh) ww) (by omega) (by omega) uq234 yq210_0 yq210_1) (fun q237 _ wq237 => ?_)
          obtain ⟨pq237, oq237, hq237⟩ := q237
          obtain ⟨tyq237, xq237, cq237_0, ttq237, fq237_0, ecq237_0, tcq237_0, gq237, efq237_0, afq237_0, bfq237_0, uq237_0, uq237_1, uq237_2, uq237_3, uq237_4, uq237_5, uq237_6, uq237_7, yq237_0, yq237_1⟩ := wq237
          dsimp only at uq237_4 uq237_5 uq237_6 uq237_7
          refine ⟨_, gq237, ?_⟩
          show gz gPP gGG gcn _ _ 150 [some (.ref x), some (.ref dr), some (.int (zi i))] [] hq237 _
          have G238 : gSg [114] [] [56000, 56001, 56002, 56003, 71006, 114999] ty h tyq237 hq237 := gSg.tr (gSg.ss G211 sS235 (by decide)) xq237 (by decide) (by decide) (fun x hx => by cases hx)
          have t239 : tyq237 x = 71 := gSg.typ xq237 sS235.1 t212 rfl
          have t240 : tyq237 dr = 55 := gSg.typ xq237 sS235.1 t213 rfl
          have t241 : tyq237 sk = 56 := gSg.typ xq237 sS235.1 t214 rfl
          have t242 : tyq237 bv = 114 := gSg.typ xq237 sS235.1 t215 rfl
          have hl243 : hq237.2.2.2.1 bv = hq210.2.2.2.1 bv := gSg.len xq237 sS235.1 t215 rfl
          have t244 : tyq237 cq122_0 = 114 := gSg.typ xq237 sS235.1 t217 rfl
          have hl245 : hq237.2.2.2.1 cq122_0 = hq210.2.2.2.1 cq122_0 := gSg.len xq237 sS235.1 t217 rfl
          have t246 : tyq237 cq141_0 = 114 := gSg.typ xq237 sS235.1 t219 rfl
          have hl247 : hq237.2.2.2.1 cq141_0 = hq210.2.2.2.1 cq141_0 := gSg.len xq237 sS235.1 t219 rfl
          have t248 : tyq237 cq162_0 = 114 := gSg.typ xq237 sS235.1 t221 rfl
          have hl249 : hq237.2.2.2.1 cq162_0 = hq210.2.2.2.1 cq162_0 := gSg.len xq237 sS235.1 t221 rfl
          have t250 : tyq237 cq185_0 = 114 := gSg.typ xq237 sS235.1 t223 rfl
          have hl251 : hq237.2.2.2.1 cq185_0 = hq210.2.2.2.1 cq185_0 := gSg.len xq237 sS235.1 t223 rfl
          have t252 : tyq237 cq210_0 = 114 := gSg.typ xq237 sS235.1 tcq210_0 rfl
          have hl253 : hq237.2.2.2.1 cq210_0 = hq210.2.2.2.1 cq210_0 := gSg.len xq237 sS235.1 tcq210_0 rfl
          have s254 := gSg.at xq237 sS235.1 t212 rfl (by decide) s225
          have s255 := gSg.at xq237 sS235.1 t213 rfl (by decide) s226
          have s256 := gSg.at xq237 sS235.1 t213 rfl (by decide) s227
          have s257 := gSg.at xq237 sS235.1 t213 rfl (by decide) s228
          have s258 := gSg.at xq237 sS235.1 t213 rfl (by decide) s229
          have s259 := gSg.at xq237 sS235.1 t212 rfl (by decide) s230
          have s260 := gSg.at xq237 sS235.1 t214 rfl (by decide) s231
          have s261 := gSg.at xq237 sS235.1 t214 rfl (by decide) s232
          have pr262 := gRn.gr xq237 sS235.1 rfl (by decide) (by decide) pr233
          have uq263 := gSg.uq xq237 uq234 (by decide)
          have sS264 : gSs rT 1027 tyq237 [56000, 56001, 56002, 56003, 71006, 114999] hq237 hq237 := gSs.rf xq237.1
          refine gz_s 1 (pc' := 151) (L' := [some (.ref x), some (.ref dr), some (.int (zi i))]) (S' := [.ref x]) rfl ?_
          refine gs_gtk rfl (by decide) rfl sS264.1 t239 rfl rfl s254 ?_
          refine gz_s 1 (pc' := 155) (L' := [some (.ref x), some (.ref dr), some (.int (zi i))]) (S' := [.int (zi 1), .ref sk]) rfl ?_
          have hl265 : hq237.2.2.2.1 cq237_0 = hq237.2.2.2.1 cq237_0 := congrFun sS264.2.2.2.2.1 cq237_0
          refine gz_call rfl (by decide) rfl (by decide) (by decide) (gcal_of rfl rfl rfl (Nat.le_of_ble_eq_true rfl) (gJ.recv (G := gGG) sS264.1 t241 rfl rfl)) (cw_putByte _ sS264.1 sk t241 1 ⟨by omega, by omega⟩ cq237_0 ecq237_0 tcq237_0 fq237_0 efq237_0 ⟨by omega, by omega⟩ (eeB (eeT (eeT (eeB (eeT (eeM (eHt tb (eeB (eeT (eeM (eeM (0, 0, 0, fun _ => 0) 216) 219) 67) 0) 64) 192) 11) 8) hh) ww) 1) (by omega) (by omega) uq263 yq237_0 yq237_1) (fun q266 _ wq266 => ?_)
          obtain ⟨pq266, oq266, hq266⟩ := q266
          obtain ⟨tyq266, xq266, cq266_0, ttq266, fq266_0, ecq266_0, tcq266_0, gq266, efq266_0, afq266_0, bfq266_0, uq266_0, uq266_1, uq266_2, uq266_3, uq266_4, uq266_5, uq266_6, uq266_7, yq266_0, yq266_1⟩ := wq266
          dsimp only at uq266_4 uq266_5 uq266_6 uq266_7
          refine ⟨_, gq266, ?_⟩
          show gz gPP gGG gcn _ _ 158 [some (.ref x), some (.ref dr), some (.int (zi i))] [] hq266 _
          have G267 : gSg [114] [] [56000, 56001, 56002, 56003, 71006, 114999] ty h tyq266 hq266 := gSg.tr (gSg.ss G238 sS264 (by decide)) xq266 (by decide) (by decide) (fun x hx => by cases hx)
          have t268 : tyq266 x = 71 := gSg.typ xq266 sS264.1 t239 rfl
          have t269 : tyq266 dr = 55 := gSg.typ xq266 sS264.1 t240 rfl
          have t270 : tyq266 sk = 56 := gSg.typ xq266 sS264.1 t241 rfl
          have t271 : tyq266 bv = 114 := gSg.typ xq266 sS264.1 t242 rfl
          have hl272 : hq266.2.2.2.1 bv = hq237.2.2.2.1 bv := gSg.len xq266 sS264.1 t242 rfl
          have t273 : tyq266 cq122_0 = 114 := gSg.typ xq266 sS264.1 t244 rfl
          have hl274 : hq266.2.2.2.1 cq122_0 = hq237.2.2.2.1 cq122_0 := gSg.len xq266 sS264.1 t244 rfl
          have t275 : tyq266 cq141_0 = 114 := gSg.typ xq266 sS264.1 t246 rfl
          have hl276 : hq266.2.2.2.1 cq141_0 = hq237.2.2.2.1 cq141_0 := gSg.len xq266 sS264.1 t246 rfl
          have t277 : tyq266 cq162_0 = 114 := gSg.typ xq266 sS264.1 t248 rfl
          have hl278 : hq266.2.2.2.1 cq162_0 = hq237.2.2.2.1 cq162_0 := gSg.len xq266 sS264.1 t248 rfl
          have t279 : tyq266 cq185_0 = 114 := gSg.typ xq266 sS264.1 t250 rfl
          have hl280 : hq266.2.2.2.1 cq185_0 = hq237.2.2.2.1 cq185_0 := gSg.len xq266 sS264.1 t250 rfl
          have t281 : tyq266 cq210_0 = 114 := gSg.typ xq266 sS264.1 t252 rfl
          have hl282 : hq266.2.2.2.1 cq210_0 = hq237.2.2.2.1 cq210_0 := gSg.len xq266 sS264.1 t252 rfl
          have t283 : tyq266 cq237_0 = 114 := gSg.typ xq266 sS264.1 tcq237_0 rfl
          have hl284 : hq266.2.2.2.1 cq237_0 = hq237.2.2.2.1 cq237_0 := gSg.len xq266 sS264.1 tcq237_0 rfl
          have s285 := gSg.at xq266 sS264.1 t239 rfl (by decide) s254
          have s286 := gSg.at xq266 sS264.1 t240 rfl (by decide) s255
          have s287 := gSg.at xq266 sS264.1 t240 rfl (by decide) s256
          have s288 := gSg.at xq266 sS264.1 t240 rfl (by decide) s257
          have s289 := gSg.at xq266 sS264.1 t240 rfl (by decide) s258
          have s290 := gSg.at xq266 sS264.1 t239 rfl (by decide) s259
          have s291 := gSg.at xq266 sS264.1 t241 rfl (by decide) s260
          have s292 := gSg.at xq266 sS264.1 t241 rfl (by decide) s261
          have pr293 := gRn.gr xq266 sS264.1 rfl (by decide) (by decide) pr262
          have uq294 := gSg.uq xq266 uq263 (by decide)
          have sS295 : gSs rT 1027 tyq266 [56000, 56001, 56002, 56003, 71006, 114999] hq266 hq266 := gSs.rf xq266.1
          refine gz_s 1 (pc' := 159) (L' := [some (.ref x), some (.ref dr), some (.int (zi i))]) (S' := [.ref x]) rfl ?_
          refine gs_gtk rfl (by decide) rfl sS295.1 t268 rfl rfl s285 ?_
          refine gz_s 1 (pc' := 164) (L' := [some (.ref x), some (.ref dr), some (.int (zi i))]) (S' := [.int (zi 17), .ref sk]) rfl ?_
          have hl296 : hq266.2.2.2.1 cq266_0 = hq266.2.2.2.1 cq266_0 := congrFun sS295.2.2.2.2.1 cq266_0
          refine gz_call rfl (by decide) rfl (by decide) (by decide) (gcal_of rfl rfl rfl (Nat.le_of_ble_eq_true rfl) (gJ.recv (G := gGG) sS295.1 t270 rfl rfl)) (cw_putByte _ sS295.1 sk t270 17 ⟨by omega, by omega⟩ cq266_0 ecq266_0 tcq266_0 fq266_0 efq266_0 ⟨by omega, by omega⟩ (eeB (eeB (eeT (eeT (eeB (eeT (eeM (eHt tb (eeB (eeT (eeM (eeM (0, 0, 0, fun _ => 0) 216) 219) 67) 0) 64) 192) 11) 8) hh) ww) 1) 1) (by omega) (by omega) uq294 yq266_0 yq266_1) (fun q297 _ wq297 => ?_)
          obtain ⟨pq297, oq297, hq297⟩ := q297
          obtain ⟨tyq297, xq297, cq297_0, ttq297, fq297_0, ecq297_0, tcq297_0, gq297, efq297_0, afq297_0, bfq297_0, uq297_0, uq297_1, uq297_2, uq297_3, uq297_4, uq297_5, uq297_6, uq297_7, yq297_0, yq297_1⟩ := wq297
          dsimp only at uq297_4 uq297_5 uq297_6 uq297_7
          refine ⟨_, gq297, ?_⟩
          show gz gPP gGG gcn _ _ 167 [some (.ref x), some (.ref dr), some (.int (zi i))] [] hq297 _
          have G298 : gSg [114] [] [56000, 56001, 56002, 56003, 71006, 114999] ty h tyq297 hq297 := gSg.tr (gSg.ss G267 sS295 (by decide)) xq297 (by decide) (by decide) (fun x hx => by cases hx)
          have t299 : tyq297 x = 71 := gSg.typ xq297 sS295.1 t268 rfl
          have t300 : tyq297 dr = 55 := gSg.typ xq297 sS295.1 t269 rfl
          have t301 : tyq297 sk = 56 := gSg.typ xq297 sS295.1 t270 rfl
          have t302 : tyq297 bv = 114 := gSg.typ xq297 sS295.1 t271 rfl
          have hl303 : hq297.2.2.2.1 bv = hq266.2.2.2.1 bv := gSg.len xq297 sS295.1 t271 rfl
          have t304 : tyq297 cq122_0 = 114 := gSg.typ xq297 sS295.1 t273 rfl
          have hl305 : hq297.2.2.2.1 cq122_0 = hq266.2.2.2.1 cq122_0 := gSg.len xq297 sS295.1 t273 rfl
          have t306 : tyq297 cq141_0 = 114 := gSg.typ xq297 sS295.1 t275 rfl
          have hl307 : hq297.2.2.2.1 cq141_0 = hq266.2.2.2.1 cq141_0 := gSg.len xq297 sS295.1 t275 rfl
          have t308 : tyq297 cq162_0 = 114 := gSg.typ xq297 sS295.1 t277 rfl
          have hl309 : hq297.2.2.2.1 cq162_0 = hq266.2.2.2.1 cq162_0 := gSg.len xq297 sS295.1 t277 rfl
          have t310 : tyq297 cq185_0 = 114 := gSg.typ xq297 sS295.1 t279 rfl
          have hl311 : hq297.2.2.2.1 cq185_0 = hq266.2.2.2.1 cq185_0 := gSg.len xq297 sS295.1 t279 rfl
          have t312 : tyq297 cq210_0 = 114 := gSg.typ xq297 sS295.1 t281 rfl
          have hl313 : hq297.2.2.2.1 cq210_0 = hq266.2.2.2.1 cq210_0 := gSg.len xq297 sS295.1 t281 rfl
          have t314 : tyq297 cq237_0 = 114 := gSg.typ xq297 sS295.1 t283 rfl
          have hl315 : hq297.2.2.2.1 cq237_0 = hq266.2.2.2.1 cq237_0 := gSg.len xq297 sS295.1 t283 rfl
          have t316 : tyq297 cq266_0 = 114 := gSg.typ xq297 sS295.1 tcq266_0 rfl
          have hl317 : hq297.2.2.2.1 cq266_0 = hq266.2.2.2.1 cq266_0 := gSg.len xq297 sS295.1 tcq266_0 rfl
          have s318 := gSg.at xq297 sS295.1 t268 rfl (by decide) s285
          have s319 := gSg.at xq297 sS295.1 t269 rfl (by decide) s286
          have s320 := gSg.at xq297 sS295.1 t269 rfl (by decide) s287
          have s321 := gSg.at xq297 sS295.1 t269 rfl (by decide) s288
          have s322 := gSg.at xq297 sS295.1 t269 rfl (by decide) s289
          have s323 := gSg.at xq297 sS295.1 t268 rfl (by decide) s290
          have s324 := gSg.at xq297 sS295.1 t270 rfl (by decide) s291
          have s325 := gSg.at xq297 sS295.1 t270 rfl (by decide) s292
          have pr326 := gRn.gr xq297 sS295.1 rfl (by decide) (by decide) pr293
          have uq327 := gSg.uq xq297 uq294 (by decide)
          have sS328 : gSs rT 1027 tyq297 [56000, 56001, 56002, 56003, 71006, 114999] hq297 hq297 := gSs.rf xq297.1
          refine gz_s 1 (pc' := 168) (L' := [some (.ref x), some (.ref dr), some (.int (zi i))]) (S' := [.ref x]) rfl ?_
          refine gs_gtk rfl (by decide) rfl sS328.1 t299 rfl rfl s318 ?_
          refine gz_s 1 (pc' := 172) (L' := [some (.ref x), some (.ref dr), some (.int (zi i))]) (S' := [.int (zi 0), .ref sk]) rfl ?_
          have hl329 : hq297.2.2.2.1 cq297_0 = hq297.2.2.2.1 cq297_0 := congrFun sS328.2.2.2.2.1 cq297_0
          refine gz_call rfl (by decide) rfl (by decide) (by decide) (gcal_of rfl rfl rfl (Nat.le_of_ble_eq_true rfl) (gJ.recv (G := gGG) sS328.1 t301 rfl rfl)) (cw_putByte _ sS328.1 sk t301 0 ⟨by omega, by omega⟩ cq297_0 ecq297_0 tcq297_0 fq297_0 efq297_0 ⟨by omega, by omega⟩ (eeB (eeB (eeB (eeT (eeT (eeB (eeT (eeM (eHt tb (eeB (eeT (eeM (eeM (0, 0, 0, fun _ => 0) 216) 219) 67) 0) 64) 192) 11) 8) hh) ww) 1) 1) 17) (by omega) (by omega) uq327 yq297_0 yq297_1) (fun q330 _ wq330 => ?_)
          obtain ⟨pq330, oq330, hq330⟩ := q330
          obtain ⟨tyq330, xq330, cq330_0, ttq330, fq330_0, ecq330_0, tcq330_0, gq330, efq330_0, afq330_0, bfq330_0, uq330_0, uq330_1, uq330_2, uq330_3, uq330_4, uq330_5, uq330_6, uq330_7, yq330_0, yq330_1⟩ := wq330
          dsimp only at uq330_4 uq330_5 uq330_6 uq330_7
          refine ⟨_, gq330, ?_⟩
          show gz gPP gGG gcn _ _ 175 [some (.ref x), some (.ref dr), some (.int (zi i))] [] hq330 _
          have G331 : gSg [114] [] [56000, 56001, 56002, 56003, 71006, 114999] ty h tyq330 hq330 := gSg.tr (gSg.ss G298 sS328 (by decide)) xq330 (by decide) (by decide) (fun x hx => by cases hx)
          have t332 : tyq330 x = 71 := gSg.typ xq330 sS328.1 t299 rfl
          have t333 : tyq330 dr = 55 := gSg.typ xq330 sS328.1 t300 rfl
          have t334 : tyq330 sk = 56 := gSg.typ xq330 sS328.1 t301 rfl
          have t335 : tyq330 bv = 114 := gSg.typ xq330 sS328.1 t302 rfl
          have hl336 : hq330.2.2.2.1 bv = hq297.2.2.2.1 bv := gSg.len xq330 sS328.1 t302 rfl
          have t337 : tyq330 cq122_0 = 114 := gSg.typ xq330 sS328.1 t304 rfl
          have hl338 : hq330.2.2.2.1 cq122_0 = hq297.2.2.2.1 cq122_0 := gSg.len xq330 sS328.1 t304 rfl
          have t339 : tyq330 cq141_0 = 114 := gSg.typ xq330 sS328.1 t306 rfl
          have hl340 : hq330.2.2.2.1 cq141_0 = hq297.2.2.2.1 cq141_0 := gSg.len xq330 sS328.1 t306 rfl
          have t341 : tyq330 cq162_0 = 114 := gSg.typ xq330 sS328.1 t308 rfl
          have hl342 : hq330.2.2.2.1 cq162_0 = hq297.2.2.2.1 cq162_0 := gSg.len xq330 sS328.1 t308 rfl
          have t343 : tyq330 cq185_0 = 114 := gSg.typ xq330 sS328.1 t310 rfl
          have hl344 : hq330.2.2.2.1 cq185_0 = hq297.2.2.2.1 cq185_0 := gSg.len xq330 sS328.1 t310 rfl
          have t345 : tyq330 cq210_0 = 114 := gSg.typ xq330 sS328.1 t312 rfl
          have hl346 : hq330.2.2.2.1 cq210_0 = hq297.2.2.2.1 cq210_0 := gSg.len xq330 sS328.1 t312 rfl
          have t347 : tyq330 cq237_0 = 114 := gSg.typ xq330 sS328.1 t314 rfl
          have hl348 : hq330.2.2.2.1 cq237_0 = hq297.2.2.2.1 cq237_0 := gSg.len xq330 sS328.1 t314 rfl
          have t349 : tyq330 cq266_0 = 114 := gSg.typ xq330 sS328.1 t316 rfl
          have hl350 : hq330.2.2.2.1 cq266_0 = hq297.2.2.2.1 cq266_0 := gSg.len xq330 sS328.1 t316 rfl
          have t351 : tyq330 cq297_0 = 114 := gSg.typ xq330 sS328.1 tcq297_0 rfl
          have hl352 : hq330.2.2.2.1 cq297_0 = hq297.2.2.2.1 cq297_0 := gSg.len xq330 sS328.1 tcq297_0 rfl
          have s353 := gSg.at xq330 sS328.1 t299 rfl (by decide) s318
          have s354 := gSg.at xq330 sS328.1 t300 rfl (by decide) s319
          have s355 := gSg.at xq330 sS328.1 t300 rfl (by decide) s320
          have s356 := gSg.at xq330 sS328.1 t300 rfl (by decide) s321
          have s357 := gSg.at xq330 sS328.1 t300 rfl (by decide) s322
          have s358 := gSg.at xq330 sS328.1 t299 rfl (by decide) s323
          have s359 := gSg.at xq330 sS328.1 t301 rfl (by decide) s324
          have s360 := gSg.at xq330 sS328.1 t301 rfl (by decide) s325
          have pr361 := gRn.gr xq330 sS328.1 rfl (by decide) (by decide) pr326
          have uq362 := gSg.uq xq330 uq327 (by decide)
          have sS363 : gSs rT 1027 tyq330 [56000, 56001, 56002, 56003, 71006, 114999] hq330 hq330 := gSs.rf xq330.1
          refine gz_s 1 (pc' := 176) (L' := [some (.ref x), some (.ref dr), some (.int (zi i))]) (S' := [.ref x]) rfl ?_
          refine gs_gtk rfl (by decide) rfl sS363.1 t332 rfl rfl s358 ?_
          by_cases hc364 : (iv0 : Int) ≤ 0
          · refine gy_ifT (pc' := 211) rfl (by decide) (by decide) (by omega) hc364 ?_
            have hk365 : eHd tb sc hh ww iv0 = eeB (eeB (eeB (eeB (eeT (eeT (eeB (eeT (eeM (eHt tb (eeB (eeT (eeM (eeM (0, 0, 0, fun _ => 0) 216) 219) 67) 0) 64) 192) 11) 8) hh) ww) 1) 1) 17) 0 := by unfold eHd; dsimp only; rw [if_neg (show ¬ 0 < iv0 by omega), if_neg (show ¬ 0 < sc by omega)]
            have hk365_1 : (eHd tb sc hh ww iv0).1 = (eeB (eeB (eeB (eeB (eeT (eeT (eeB (eeT (eeM (eHt tb (eeB (eeT (eeM (eeM (0, 0, 0, fun _ => 0) 216) 219) 67) 0) 64) 192) 11) 8) hh) ww) 1) 1) 17) 0).1 := by rw [hk365]
            have hk365_21 : (eHd tb sc hh ww iv0).2.1 = (eeB (eeB (eeB (eeB (eeT (eeT (eeB (eeT (eeM (eHt tb (eeB (eeT (eeM (eeM (0, 0, 0, fun _ => 0) 216) 219) 67) 0) 64) 192) 11) 8) hh) ww) 1) 1) 17) 0).2.1 := by rw [hk365]
            have hk365_221 : (eHd tb sc hh ww iv0).2.2.1 = (eeB (eeB (eeB (eeB (eeT (eeT (eeB (eeT (eeM (eHt tb (eeB (eeT (eeM (eeM (0, 0, 0, fun _ => 0) 216) 219) 67) 0) 64) 192) 11) 8) hh) ww) 1) 1) 17) 0).2.2.1 := by rw [hk365]
            have hsw366 : gSW tyq330 cq330_0 (eHd tb sc hh ww iv0) hq330 := by rw [hk365]; exact yq330_0
            have hok367 : eeOk (eHd tb sc hh ww iv0) := by rw [hk365]; exact yq330_1
            have hoc368 := hok367.cur
            have hl369 : 1024 ≤ hq330.2.2.2.1 bv ∧ hq330.2.2.2.1 bv ≤ 1000000 := gJ.rowl (G := gGG) sS363.1 t335 rfl
            have hl370 : 1024 ≤ hq330.2.2.2.1 cq122_0 ∧ hq330.2.2.2.1 cq122_0 ≤ 1000000 := gJ.rowl (G := gGG) sS363.1 t337 rfl
            have hl371 : 1024 ≤ hq330.2.2.2.1 cq141_0 ∧ hq330.2.2.2.1 cq141_0 ≤ 1000000 := gJ.rowl (G := gGG) sS363.1 t339 rfl
            have hl372 : 1024 ≤ hq330.2.2.2.1 cq162_0 ∧ hq330.2.2.2.1 cq162_0 ≤ 1000000 := gJ.rowl (G := gGG) sS363.1 t341 rfl
            have hl373 : 1024 ≤ hq330.2.2.2.1 cq185_0 ∧ hq330.2.2.2.1 cq185_0 ≤ 1000000 := gJ.rowl (G := gGG) sS363.1 t343 rfl
            have hl374 : 1024 ≤ hq330.2.2.2.1 cq210_0 ∧ hq330.2.2.2.1 cq210_0 ≤ 1000000 := gJ.rowl (G := gGG) sS363.1 t345 rfl
            have hl375 : 1024 ≤ hq330.2.2.2.1 cq237_0 ∧ hq330.2.2.2.1 cq237_0 ≤ 1000000 := gJ.rowl (G := gGG) sS363.1 t347 rfl
            have hl376 : 1024 ≤ hq330.2.2.2.1 cq266_0 ∧ hq330.2.2.2.1 cq266_0 ≤ 1000000 := gJ.rowl (G := gGG) sS363.1 t349 rfl
            have hl377 : 1024 ≤ hq330.2.2.2.1 cq297_0 ∧ hq330.2.2.2.1 cq297_0 ≤ 1000000 := gJ.rowl (G := gGG) sS363.1 t351 rfl
            have hl378 : 1024 ≤ hq330.2.2.2.1 cq330_0 ∧ hq330.2.2.2.1 cq330_0 ≤ 1000000 := gJ.rowl (G := gGG) sS363.1 tcq330_0 rfl
            have G379 : gSg [114] [] [56000, 56001, 56002, 56003, 71006, 114999] ty h tyq330 hq330 := gSg.ss G331 sS363 (by decide)
            exact gz_end (I := .return_) (len := 1) rfl (Or.inl rfl) ⟨tyq330, G379, cq330_0, trivial, fq330_0, fq9_1, fq9_2, iv0, ecq330_0, tcq330_0, rfl, efq330_0, (by omega), (by omega), s359, (by omega), (by omega), s360, (by omega), (by omega), s358, (by omega), (by omega), (by omega), (by omega), (by omega), (by omega), (by omega), (by omega), (by omega), (by dsimp only; omega), (by dsimp only; omega), (by dsimp only; omega), (by dsimp only; omega), hsw366, hok367⟩
          · refine gy_ifF rfl (by decide) (by decide) (by omega) hc364 ?_
            refine gz_s 1 (pc' := 183) (L' := [some (.ref x), some (.ref dr), some (.int (zi i))]) (S' := [.ref x]) rfl ?_
            refine gs_gtk rfl (by decide) rfl sS363.1 t332 rfl rfl s353 ?_
            refine gz_s 1 (pc' := 189) (L' := [some (.ref x), some (.ref dr), some (.int (zi i))]) (S' := [.int (zi 221), .ref sk]) rfl ?_
            have hl380 : hq330.2.2.2.1 cq330_0 = hq330.2.2.2.1 cq330_0 := congrFun sS363.2.2.2.2.1 cq330_0
            refine gz_call rfl (by decide) rfl (by decide) (by decide) (gcal_of rfl rfl rfl (Nat.le_of_ble_eq_true rfl) (gJ.recv (G := gGG) sS363.1 t334 rfl rfl)) (cw_putMarker _ sS363.1 sk t334 221 ⟨by omega, by omega⟩ cq330_0 ecq330_0 tcq330_0 fq330_0 efq330_0 ⟨by omega, by omega⟩ (eeB (eeB (eeB (eeB (eeT (eeT (eeB (eeT (eeM (eHt tb (eeB (eeT (eeM (eeM (0, 0, 0, fun _ => 0) 216) 219) 67) 0) 64) 192) 11) 8) hh) ww) 1) 1) 17) 0) (by omega) (by omega) uq362 yq330_0 yq330_1) (fun q381 _ wq381 => ?_)
            obtain ⟨pq381, oq381, hq381⟩ := q381
            obtain ⟨tyq381, xq381, cq381_0, ttq381, fq381_0, ecq381_0, tcq381_0, gq381, efq381_0, afq381_0, bfq381_0, uq381_0, uq381_1, uq381_2, uq381_3, uq381_4, uq381_5, uq381_6, uq381_7, yq381_0, yq381_1⟩ := wq381
            dsimp only at uq381_4 uq381_5 uq381_6 uq381_7
            refine ⟨_, gq381, ?_⟩
            show gz gPP gGG gcn _ _ 192 [some (.ref x), some (.ref dr), some (.int (zi i))] [] hq381 _
            have G382 : gSg [114] [] [56000, 56001, 56002, 56003, 71006, 114999] ty h tyq381 hq381 := gSg.tr (gSg.ss G331 sS363 (by decide)) xq381 (by decide) (by decide) (fun x hx => by cases hx)
            have t383 : tyq381 x = 71 := gSg.typ xq381 sS363.1 t332 rfl
            have t384 : tyq381 dr = 55 := gSg.typ xq381 sS363.1 t333 rfl
            have t385 : tyq381 sk = 56 := gSg.typ xq381 sS363.1 t334 rfl
            have t386 : tyq381 bv = 114 := gSg.typ xq381 sS363.1 t335 rfl
            have hl387 : hq381.2.2.2.1 bv = hq330.2.2.2.1 bv := gSg.len xq381 sS363.1 t335 rfl
            have t388 : tyq381 cq122_0 = 114 := gSg.typ xq381 sS363.1 t337 rfl
            have hl389 : hq381.2.2.2.1 cq122_0 = hq330.2.2.2.1 cq122_0 := gSg.len xq381 sS363.1 t337 rfl
            have t390 : tyq381 cq141_0 = 114 := gSg.typ xq381 sS363.1 t339 rfl
            have hl391 : hq381.2.2.2.1 cq141_0 = hq330.2.2.2.1 cq141_0 := gSg.len xq381 sS363.1 t339 rfl
            have t392 : tyq381 cq162_0 = 114 := gSg.typ xq381 sS363.1 t341 rfl
            have hl393 : hq381.2.2.2.1 cq162_0 = hq330.2.2.2.1 cq162_0 := gSg.len xq381 sS363.1 t341 rfl
            have t394 : tyq381 cq185_0 = 114 := gSg.typ xq381 sS363.1 t343 rfl
            have hl395 : hq381.2.2.2.1 cq185_0 = hq330.2.2.2.1 cq185_0 := gSg.len xq381 sS363.1 t343 rfl
            have t396 : tyq381 cq210_0 = 114 := gSg.typ xq381 sS363.1 t345 rfl
            have hl397 : hq381.2.2.2.1 cq210_0 = hq330.2.2.2.1 cq210_0 := gSg.len xq381 sS363.1 t345 rfl
            have t398 : tyq381 cq237_0 = 114 := gSg.typ xq381 sS363.1 t347 rfl
            have hl399 : hq381.2.2.2.1 cq237_0 = hq330.2.2.2.1 cq237_0 := gSg.len xq381 sS363.1 t347 rfl
            have t400 : tyq381 cq266_0 = 114 := gSg.typ xq381 sS363.1 t349 rfl
            have hl401 : hq381.2.2.2.1 cq266_0 = hq330.2.2.2.1 cq266_0 := gSg.len xq381 sS363.1 t349 rfl
            have t402 : tyq381 cq297_0 = 114 := gSg.typ xq381 sS363.1 t351 rfl
            have hl403 : hq381.2.2.2.1 cq297_0 = hq330.2.2.2.1 cq297_0 := gSg.len xq381 sS363.1 t351 rfl
            have t404 : tyq381 cq330_0 = 114 := gSg.typ xq381 sS363.1 tcq330_0 rfl
            have hl405 : hq381.2.2.2.1 cq330_0 = hq330.2.2.2.1 cq330_0 := gSg.len xq381 sS363.1 tcq330_0 rfl
            have s406 := gSg.at xq381 sS363.1 t332 rfl (by decide) s353
            have s407 := gSg.at xq381 sS363.1 t333 rfl (by decide) s354
            have s408 := gSg.at xq381 sS363.1 t333 rfl (by decide) s355
            have s409 := gSg.at xq381 sS363.1 t333 rfl (by decide) s356
            have s410 := gSg.at xq381 sS363.1 t333 rfl (by decide) s357
            have s411 := gSg.at xq381 sS363.1 t332 rfl (by decide) s358
            have s412 := gSg.at xq381 sS363.1 t334 rfl (by decide) s359
            have s413 := gSg.at xq381 sS363.1 t334 rfl (by decide) s360
            have pr414 := gRn.gr xq381 sS363.1 rfl (by decide) (by decide) pr361
            have uq415 := gSg.uq xq381 uq362 (by decide)
            have sS416 : gSs rT 1027 tyq381 [56000, 56001, 56002, 56003, 71006, 114999] hq381 hq381 := gSs.rf xq381.1
            refine gz_s 1 (pc' := 193) (L' := [some (.ref x), some (.ref dr), some (.int (zi i))]) (S' := [.ref x]) rfl ?_
            refine gs_gtk rfl (by decide) rfl sS416.1 t383 rfl rfl s406 ?_
            refine gz_s 1 (pc' := 197) (L' := [some (.ref x), some (.ref dr), some (.int (zi i))]) (S' := [.int (zi 4), .ref sk]) rfl ?_
            have hl417 : hq381.2.2.2.1 cq381_0 = hq381.2.2.2.1 cq381_0 := congrFun sS416.2.2.2.2.1 cq381_0
            refine gz_call rfl (by decide) rfl (by decide) (by decide) (gcal_of rfl rfl rfl (Nat.le_of_ble_eq_true rfl) (gJ.recv (G := gGG) sS416.1 t385 rfl rfl)) (cw_putTwo _ sS416.1 sk t385 4 ⟨by omega, by omega⟩ cq381_0 ecq381_0 tcq381_0 fq381_0 efq381_0 ⟨by omega, by omega⟩ (eeM (eeB (eeB (eeB (eeB (eeT (eeT (eeB (eeT (eeM (eHt tb (eeB (eeT (eeM (eeM (0, 0, 0, fun _ => 0) 216) 219) 67) 0) 64) 192) 11) 8) hh) ww) 1) 1) 17) 0) 221) (by omega) (by omega) uq415 yq381_0 yq381_1) (fun q418 _ wq418 => ?_)
            obtain ⟨pq418, oq418, hq418⟩ := q418
            obtain ⟨tyq418, xq418, cq418_0, ttq418, fq418_0, ecq418_0, tcq418_0, gq418, efq418_0, afq418_0, bfq418_0, uq418_0, uq418_1, uq418_2, uq418_3, uq418_4, uq418_5, uq418_6, uq418_7, yq418_0, yq418_1⟩ := wq418
            dsimp only at uq418_4 uq418_5 uq418_6 uq418_7
            refine ⟨_, gq418, ?_⟩
            show gz gPP gGG gcn _ _ 200 [some (.ref x), some (.ref dr), some (.int (zi i))] [] hq418 _
            have G419 : gSg [114] [] [56000, 56001, 56002, 56003, 71006, 114999] ty h tyq418 hq418 := gSg.tr (gSg.ss G382 sS416 (by decide)) xq418 (by decide) (by decide) (fun x hx => by cases hx)
            have t420 : tyq418 x = 71 := gSg.typ xq418 sS416.1 t383 rfl
            have t421 : tyq418 dr = 55 := gSg.typ xq418 sS416.1 t384 rfl
            have t422 : tyq418 sk = 56 := gSg.typ xq418 sS416.1 t385 rfl
            have t423 : tyq418 bv = 114 := gSg.typ xq418 sS416.1 t386 rfl
            have hl424 : hq418.2.2.2.1 bv = hq381.2.2.2.1 bv := gSg.len xq418 sS416.1 t386 rfl
            have t425 : tyq418 cq122_0 = 114 := gSg.typ xq418 sS416.1 t388 rfl
            have hl426 : hq418.2.2.2.1 cq122_0 = hq381.2.2.2.1 cq122_0 := gSg.len xq418 sS416.1 t388 rfl
            have t427 : tyq418 cq141_0 = 114 := gSg.typ xq418 sS416.1 t390 rfl
            have hl428 : hq418.2.2.2.1 cq141_0 = hq381.2.2.2.1 cq141_0 := gSg.len xq418 sS416.1 t390 rfl
            have t429 : tyq418 cq162_0 = 114 := gSg.typ xq418 sS416.1 t392 rfl
            have hl430 : hq418.2.2.2.1 cq162_0 = hq381.2.2.2.1 cq162_0 := gSg.len xq418 sS416.1 t392 rfl
            have t431 : tyq418 cq185_0 = 114 := gSg.typ xq418 sS416.1 t394 rfl
            have hl432 : hq418.2.2.2.1 cq185_0 = hq381.2.2.2.1 cq185_0 := gSg.len xq418 sS416.1 t394 rfl
            have t433 : tyq418 cq210_0 = 114 := gSg.typ xq418 sS416.1 t396 rfl
            have hl434 : hq418.2.2.2.1 cq210_0 = hq381.2.2.2.1 cq210_0 := gSg.len xq418 sS416.1 t396 rfl
            have t435 : tyq418 cq237_0 = 114 := gSg.typ xq418 sS416.1 t398 rfl
            have hl436 : hq418.2.2.2.1 cq237_0 = hq381.2.2.2.1 cq237_0 := gSg.len xq418 sS416.1 t398 rfl
            have t437 : tyq418 cq266_0 = 114 := gSg.typ xq418 sS416.1 t400 rfl
            have hl438 : hq418.2.2.2.1 cq266_0 = hq381.2.2.2.1 cq266_0 := gSg.len xq418 sS416.1 t400 rfl
            have t439 : tyq418 cq297_0 = 114 := gSg.typ xq418 sS416.1 t402 rfl
            have hl440 : hq418.2.2.2.1 cq297_0 = hq381.2.2.2.1 cq297_0 := gSg.len xq418 sS416.1 t402 rfl
            have t441 : tyq418 cq330_0 = 114 := gSg.typ xq418 sS416.1 t404 rfl
            have hl442 : hq418.2.2.2.1 cq330_0 = hq381.2.2.2.1 cq330_0 := gSg.len xq418 sS416.1 t404 rfl
            have t443 : tyq418 cq381_0 = 114 := gSg.typ xq418 sS416.1 tcq381_0 rfl
            have hl444 : hq418.2.2.2.1 cq381_0 = hq381.2.2.2.1 cq381_0 := gSg.len xq418 sS416.1 tcq381_0 rfl
            have s445 := gSg.at xq418 sS416.1 t383 rfl (by decide) s406
            have s446 := gSg.at xq418 sS416.1 t384 rfl (by decide) s407
            have s447 := gSg.at xq418 sS416.1 t384 rfl (by decide) s408
            have s448 := gSg.at xq418 sS416.1 t384 rfl (by decide) s409
            have s449 := gSg.at xq418 sS416.1 t384 rfl (by decide) s410
            have s450 := gSg.at xq418 sS416.1 t383 rfl (by decide) s411
            have s451 := gSg.at xq418 sS416.1 t385 rfl (by decide) s412
            have s452 := gSg.at xq418 sS416.1 t385 rfl (by decide) s413
            have pr453 := gRn.gr xq418 sS416.1 rfl (by decide) (by decide) pr414
            have uq454 := gSg.uq xq418 uq415 (by decide)
            have sS455 : gSs rT 1027 tyq418 [56000, 56001, 56002, 56003, 71006, 114999] hq418 hq418 := gSs.rf xq418.1
            refine gz_s 1 (pc' := 201) (L' := [some (.ref x), some (.ref dr), some (.int (zi i))]) (S' := [.ref x]) rfl ?_
            refine gs_gtk rfl (by decide) rfl sS455.1 t420 rfl rfl s445 ?_
            refine gz_s 1 (pc' := 205) (L' := [some (.ref x), some (.ref dr), some (.int (zi i))]) (S' := [.ref x, .ref sk]) rfl ?_
            refine gs_gtk rfl (by decide) rfl sS455.1 t420 rfl rfl s450 ?_
            have hl456 : hq418.2.2.2.1 cq418_0 = hq418.2.2.2.1 cq418_0 := congrFun sS455.2.2.2.2.1 cq418_0
            refine gz_call rfl (by decide) rfl (by decide) (by decide) (gcal_of rfl rfl rfl (Nat.le_of_ble_eq_true rfl) (gJ.recv (G := gGG) sS455.1 t422 rfl rfl)) (cw_putTwo _ sS455.1 sk t422 iv0 ⟨by omega, by omega⟩ cq418_0 ecq418_0 tcq418_0 fq418_0 efq418_0 ⟨by omega, by omega⟩ (eeT (eeM (eeB (eeB (eeB (eeB (eeT (eeT (eeB (eeT (eeM (eHt tb (eeB (eeT (eeM (eeM (0, 0, 0, fun _ => 0) 216) 219) 67) 0) 64) 192) 11) 8) hh) ww) 1) 1) 17) 0) 221) 4) (by omega) (by omega) uq454 yq418_0 yq418_1) (fun q457 _ wq457 => ?_)
            obtain ⟨pq457, oq457, hq457⟩ := q457
            obtain ⟨tyq457, xq457, cq457_0, ttq457, fq457_0, ecq457_0, tcq457_0, gq457, efq457_0, afq457_0, bfq457_0, uq457_0, uq457_1, uq457_2, uq457_3, uq457_4, uq457_5, uq457_6, uq457_7, yq457_0, yq457_1⟩ := wq457
            dsimp only at uq457_4 uq457_5 uq457_6 uq457_7
            refine ⟨_, gq457, ?_⟩
            show gz gPP gGG gcn _ _ 211 [some (.ref x), some (.ref dr), some (.int (zi i))] [] hq457 _
            have G458 : gSg [114] [] [56000, 56001, 56002, 56003, 71006, 114999] ty h tyq457 hq457 := gSg.tr (gSg.ss G419 sS455 (by decide)) xq457 (by decide) (by decide) (fun x hx => by cases hx)
            have t459 : tyq457 x = 71 := gSg.typ xq457 sS455.1 t420 rfl
            have t460 : tyq457 dr = 55 := gSg.typ xq457 sS455.1 t421 rfl
            have t461 : tyq457 sk = 56 := gSg.typ xq457 sS455.1 t422 rfl
            have t462 : tyq457 bv = 114 := gSg.typ xq457 sS455.1 t423 rfl
            have hl463 : hq457.2.2.2.1 bv = hq418.2.2.2.1 bv := gSg.len xq457 sS455.1 t423 rfl
            have t464 : tyq457 cq122_0 = 114 := gSg.typ xq457 sS455.1 t425 rfl
            have hl465 : hq457.2.2.2.1 cq122_0 = hq418.2.2.2.1 cq122_0 := gSg.len xq457 sS455.1 t425 rfl
            have t466 : tyq457 cq141_0 = 114 := gSg.typ xq457 sS455.1 t427 rfl
            have hl467 : hq457.2.2.2.1 cq141_0 = hq418.2.2.2.1 cq141_0 := gSg.len xq457 sS455.1 t427 rfl
            have t468 : tyq457 cq162_0 = 114 := gSg.typ xq457 sS455.1 t429 rfl
            have hl469 : hq457.2.2.2.1 cq162_0 = hq418.2.2.2.1 cq162_0 := gSg.len xq457 sS455.1 t429 rfl
            have t470 : tyq457 cq185_0 = 114 := gSg.typ xq457 sS455.1 t431 rfl
            have hl471 : hq457.2.2.2.1 cq185_0 = hq418.2.2.2.1 cq185_0 := gSg.len xq457 sS455.1 t431 rfl
            have t472 : tyq457 cq210_0 = 114 := gSg.typ xq457 sS455.1 t433 rfl
            have hl473 : hq457.2.2.2.1 cq210_0 = hq418.2.2.2.1 cq210_0 := gSg.len xq457 sS455.1 t433 rfl
            have t474 : tyq457 cq237_0 = 114 := gSg.typ xq457 sS455.1 t435 rfl
            have hl475 : hq457.2.2.2.1 cq237_0 = hq418.2.2.2.1 cq237_0 := gSg.len xq457 sS455.1 t435 rfl
            have t476 : tyq457 cq266_0 = 114 := gSg.typ xq457 sS455.1 t437 rfl
            have hl477 : hq457.2.2.2.1 cq266_0 = hq418.2.2.2.1 cq266_0 := gSg.len xq457 sS455.1 t437 rfl
            have t478 : tyq457 cq297_0 = 114 := gSg.typ xq457 sS455.1 t439 rfl
            have hl479 : hq457.2.2.2.1 cq297_0 = hq418.2.2.2.1 cq297_0 := gSg.len xq457 sS455.1 t439 rfl
            have t480 : tyq457 cq330_0 = 114 := gSg.typ xq457 sS455.1 t441 rfl
            have hl481 : hq457.2.2.2.1 cq330_0 = hq418.2.2.2.1 cq330_0 := gSg.len xq457 sS455.1 t441 rfl
            have t482 : tyq457 cq381_0 = 114 := gSg.typ xq457 sS455.1 t443 rfl
            have hl483 : hq457.2.2.2.1 cq381_0 = hq418.2.2.2.1 cq381_0 := gSg.len xq457 sS455.1 t443 rfl
            have t484 : tyq457 cq418_0 = 114 := gSg.typ xq457 sS455.1 tcq418_0 rfl
            have hl485 : hq457.2.2.2.1 cq418_0 = hq418.2.2.2.1 cq418_0 := gSg.len xq457 sS455.1 tcq418_0 rfl
            have s486 := gSg.at xq457 sS455.1 t420 rfl (by decide) s445
            have s487 := gSg.at xq457 sS455.1 t421 rfl (by decide) s446
            have s488 := gSg.at xq457 sS455.1 t421 rfl (by decide) s447
            have s489 := gSg.at xq457 sS455.1 t421 rfl (by decide) s448
            have s490 := gSg.at xq457 sS455.1 t421 rfl (by decide) s449
            have s491 := gSg.at xq457 sS455.1 t420 rfl (by decide) s450
            have s492 := gSg.at xq457 sS455.1 t422 rfl (by decide) s451
            have s493 := gSg.at xq457 sS455.1 t422 rfl (by decide) s452
            have pr494 := gRn.gr xq457 sS455.1 rfl (by decide) (by decide) pr453
            have uq495 := gSg.uq xq457 uq454 (by decide)
            have sS496 : gSs rT 1027 tyq457 [56000, 56001, 56002, 56003, 71006, 114999] hq457 hq457 := gSs.rf xq457.1
            have hk497 : eHd tb sc hh ww iv0 = eeT (eeT (eeM (eeB (eeB (eeB (eeB (eeT (eeT (eeB (eeT (eeM (eHt tb (eeB (eeT (eeM (eeM (0, 0, 0, fun _ => 0) 216) 219) 67) 0) 64) 192) 11) 8) hh) ww) 1) 1) 17) 0) 221) 4) iv0 := by unfold eHd; dsimp only; rw [if_pos (show 0 < iv0 by omega), if_neg (show ¬ 0 < sc by omega)]
            have hk497_1 : (eHd tb sc hh ww iv0).1 = (eeT (eeT (eeM (eeB (eeB (eeB (eeB (eeT (eeT (eeB (eeT (eeM (eHt tb (eeB (eeT (eeM (eeM (0, 0, 0, fun _ => 0) 216) 219) 67) 0) 64) 192) 11) 8) hh) ww) 1) 1) 17) 0) 221) 4) iv0).1 := by rw [hk497]
            have hk497_21 : (eHd tb sc hh ww iv0).2.1 = (eeT (eeT (eeM (eeB (eeB (eeB (eeB (eeT (eeT (eeB (eeT (eeM (eHt tb (eeB (eeT (eeM (eeM (0, 0, 0, fun _ => 0) 216) 219) 67) 0) 64) 192) 11) 8) hh) ww) 1) 1) 17) 0) 221) 4) iv0).2.1 := by rw [hk497]
            have hk497_221 : (eHd tb sc hh ww iv0).2.2.1 = (eeT (eeT (eeM (eeB (eeB (eeB (eeB (eeT (eeT (eeB (eeT (eeM (eHt tb (eeB (eeT (eeM (eeM (0, 0, 0, fun _ => 0) 216) 219) 67) 0) 64) 192) 11) 8) hh) ww) 1) 1) 17) 0) 221) 4) iv0).2.2.1 := by rw [hk497]
            have hsw498 : gSW tyq457 cq457_0 (eHd tb sc hh ww iv0) hq457 := by rw [hk497]; exact yq457_0
            have hok499 : eeOk (eHd tb sc hh ww iv0) := by rw [hk497]; exact yq457_1
            have hoc500 := hok499.cur
            have hl501 : 1024 ≤ hq457.2.2.2.1 bv ∧ hq457.2.2.2.1 bv ≤ 1000000 := gJ.rowl (G := gGG) sS496.1 t462 rfl
            have hl502 : 1024 ≤ hq457.2.2.2.1 cq122_0 ∧ hq457.2.2.2.1 cq122_0 ≤ 1000000 := gJ.rowl (G := gGG) sS496.1 t464 rfl
            have hl503 : 1024 ≤ hq457.2.2.2.1 cq141_0 ∧ hq457.2.2.2.1 cq141_0 ≤ 1000000 := gJ.rowl (G := gGG) sS496.1 t466 rfl
            have hl504 : 1024 ≤ hq457.2.2.2.1 cq162_0 ∧ hq457.2.2.2.1 cq162_0 ≤ 1000000 := gJ.rowl (G := gGG) sS496.1 t468 rfl
            have hl505 : 1024 ≤ hq457.2.2.2.1 cq185_0 ∧ hq457.2.2.2.1 cq185_0 ≤ 1000000 := gJ.rowl (G := gGG) sS496.1 t470 rfl
            have hl506 : 1024 ≤ hq457.2.2.2.1 cq210_0 ∧ hq457.2.2.2.1 cq210_0 ≤ 1000000 := gJ.rowl (G := gGG) sS496.1 t472 rfl
            have hl507 : 1024 ≤ hq457.2.2.2.1 cq237_0 ∧ hq457.2.2.2.1 cq237_0 ≤ 1000000 := gJ.rowl (G := gGG) sS496.1 t474 rfl
            have hl508 : 1024 ≤ hq457.2.2.2.1 cq266_0 ∧ hq457.2.2.2.1 cq266_0 ≤ 1000000 := gJ.rowl (G := gGG) sS496.1 t476 rfl
            have hl509 : 1024 ≤ hq457.2.2.2.1 cq297_0 ∧ hq457.2.2.2.1 cq297_0 ≤ 1000000 := gJ.rowl (G := gGG) sS496.1 t478 rfl
            have hl510 : 1024 ≤ hq457.2.2.2.1 cq330_0 ∧ hq457.2.2.2.1 cq330_0 ≤ 1000000 := gJ.rowl (G := gGG) sS496.1 t480 rfl
            have hl511 : 1024 ≤ hq457.2.2.2.1 cq381_0 ∧ hq457.2.2.2.1 cq381_0 ≤ 1000000 := gJ.rowl (G := gGG) sS496.1 t482 rfl
            have hl512 : 1024 ≤ hq457.2.2.2.1 cq418_0 ∧ hq457.2.2.2.1 cq418_0 ≤ 1000000 := gJ.rowl (G := gGG) sS496.1 t484 rfl
            have hl513 : 1024 ≤ hq457.2.2.2.1 cq457_0 ∧ hq457.2.2.2.1 cq457_0 ≤ 1000000 := gJ.rowl (G := gGG) sS496.1 tcq457_0 rfl
            have G514 : gSg [114] [] [56000, 56001, 56002, 56003, 71006, 114999] ty h tyq457 hq457 := gSg.ss G458 sS496 (by decide)
            exact gz_end (I := .return_) (len := 1) rfl (Or.inl rfl) ⟨tyq457, G514, cq457_0, trivial, fq457_0, fq9_1, fq9_2, iv0, ecq457_0, tcq457_0, rfl, efq457_0, (by omega), (by omega), s492, (by omega), (by omega), s493, (by omega), (by omega), s491, (by omega), (by omega), (by omega), (by omega), (by omega), (by omega), (by omega), (by omega), (by omega), (by dsimp only; omega), (by dsimp only; omega), (by dsimp only; omega), (by dsimp only; omega), hsw498, hok499⟩
        · refine gy_ifF rfl (by decide) (by decide) (by omega) hc120 ?_
          refine gz_s 2 (pc' := 99) (L' := [some (.ref x), some (.ref dr), some (.int (zi i))]) (S' := [.int (zi 194), .ref sk]) rfl ?_
          have hl515 : h113.2.2.2.1 bv = h113.2.2.2.1 bv := congrFun sh113.2.2.2.2.1 bv
          refine gz_call rfl (by decide) rfl (by decide) (by decide) (gcal_of rfl rfl rfl (Nat.le_of_ble_eq_true rfl) (gJ.recv (G := gGG) sh113.1 lp108c2 rfl rfl)) (cw_putMarker _ sh113.1 sk lp108c2 194 ⟨by omega, by omega⟩ bv lp108r0 lp108r1 cv lp108k8 ⟨by omega, by omega⟩ (eHt tb (eeB (eeT (eeM (eeM (0, 0, 0, fun _ => 0) 216) 219) 67) 0) 64) (by omega) (by omega) lp108u hsw117 hok118) (fun q516 _ wq516 => ?_)
          obtain ⟨pq516, oq516, hq516⟩ := q516
          obtain ⟨tyq516, xq516, cq516_0, ttq516, fq516_0, ecq516_0, tcq516_0, gq516, efq516_0, afq516_0, bfq516_0, uq516_0, uq516_1, uq516_2, uq516_3, uq516_4, uq516_5, uq516_6, uq516_7, yq516_0, yq516_1⟩ := wq516
          dsimp only at uq516_4 uq516_5 uq516_6 uq516_7
          refine ⟨_, gq516, ?_⟩
          show gz gPP gGG gcn _ _ 102 [some (.ref x), some (.ref dr), some (.int (zi i))] [] hq516 _
          have G517 : gSg [114] [] [56000, 56001, 56002, 56003, 71006, 114999] ty h tyq516 hq516 := gSg.tr (gSg.ss lp108G sh113 (by decide)) xq516 (by decide) (by decide) (fun x hx => by cases hx)
          have t518 : tyq516 x = 71 := gSg.typ xq516 sh113.1 lp108c0 rfl
          have t519 : tyq516 dr = 55 := gSg.typ xq516 sh113.1 lp108c1 rfl
          have t520 : tyq516 sk = 56 := gSg.typ xq516 sh113.1 lp108c2 rfl
          have t521 : tyq516 bv = 114 := gSg.typ xq516 sh113.1 lp108r1 rfl
          have hl522 : hq516.2.2.2.1 bv = h113.2.2.2.1 bv := gSg.len xq516 sh113.1 lp108r1 rfl
          have s523 := gSg.at xq516 sh113.1 lp108c0 rfl (by decide) lp108k0
          have s524 := gSg.at xq516 sh113.1 lp108c1 rfl (by decide) lp108k1
          have s525 := gSg.at xq516 sh113.1 lp108c1 rfl (by decide) lp108k2
          have s526 := gSg.at xq516 sh113.1 lp108c1 rfl (by decide) lp108k3
          have s527 := gSg.at xq516 sh113.1 lp108c1 rfl (by decide) lp108k4
          have s528 := gSg.at xq516 sh113.1 lp108c0 rfl (by decide) lp108k5
          have s529 := gSg.at xq516 sh113.1 lp108c2 rfl (by decide) lp108k6
          have s530 := gSg.at xq516 sh113.1 lp108c2 rfl (by decide) lp108k7
          have pr531 := gRn.gr xq516 sh113.1 rfl (by decide) (by decide) lp108k9
          have uq532 := gSg.uq xq516 lp108u (by decide)
          have sS533 : gSs rT 1027 tyq516 [56000, 56001, 56002, 56003, 71006, 114999] hq516 hq516 := gSs.rf xq516.1
          refine gz_s 1 (pc' := 103) (L' := [some (.ref x), some (.ref dr), some (.int (zi i))]) (S' := [.ref x]) rfl ?_
          refine gs_gtk rfl (by decide) rfl sS533.1 t518 rfl rfl s523 ?_
          refine gz_s 1 (pc' := 108) (L' := [some (.ref x), some (.ref dr), some (.int (zi i))]) (S' := [.int (zi 11), .ref sk]) rfl ?_
          have hl534 : hq516.2.2.2.1 cq516_0 = hq516.2.2.2.1 cq516_0 := congrFun sS533.2.2.2.2.1 cq516_0
          refine gz_call rfl (by decide) rfl (by decide) (by decide) (gcal_of rfl rfl rfl (Nat.le_of_ble_eq_true rfl) (gJ.recv (G := gGG) sS533.1 t520 rfl rfl)) (cw_putTwo _ sS533.1 sk t520 11 ⟨by omega, by omega⟩ cq516_0 ecq516_0 tcq516_0 fq516_0 efq516_0 ⟨by omega, by omega⟩ (eeM (eHt tb (eeB (eeT (eeM (eeM (0, 0, 0, fun _ => 0) 216) 219) 67) 0) 64) 194) (by omega) (by omega) uq532 yq516_0 yq516_1) (fun q535 _ wq535 => ?_)
          obtain ⟨pq535, oq535, hq535⟩ := q535
          obtain ⟨tyq535, xq535, cq535_0, ttq535, fq535_0, ecq535_0, tcq535_0, gq535, efq535_0, afq535_0, bfq535_0, uq535_0, uq535_1, uq535_2, uq535_3, uq535_4, uq535_5, uq535_6, uq535_7, yq535_0, yq535_1⟩ := wq535
          dsimp only at uq535_4 uq535_5 uq535_6 uq535_7
          refine ⟨_, gq535, ?_⟩
          show gz gPP gGG gcn _ _ 111 [some (.ref x), some (.ref dr), some (.int (zi i))] [] hq535 _
          have G536 : gSg [114] [] [56000, 56001, 56002, 56003, 71006, 114999] ty h tyq535 hq535 := gSg.tr (gSg.ss G517 sS533 (by decide)) xq535 (by decide) (by decide) (fun x hx => by cases hx)
          have t537 : tyq535 x = 71 := gSg.typ xq535 sS533.1 t518 rfl
          have t538 : tyq535 dr = 55 := gSg.typ xq535 sS533.1 t519 rfl
          have t539 : tyq535 sk = 56 := gSg.typ xq535 sS533.1 t520 rfl
          have t540 : tyq535 bv = 114 := gSg.typ xq535 sS533.1 t521 rfl
          have hl541 : hq535.2.2.2.1 bv = hq516.2.2.2.1 bv := gSg.len xq535 sS533.1 t521 rfl
          have t542 : tyq535 cq516_0 = 114 := gSg.typ xq535 sS533.1 tcq516_0 rfl
          have hl543 : hq535.2.2.2.1 cq516_0 = hq516.2.2.2.1 cq516_0 := gSg.len xq535 sS533.1 tcq516_0 rfl
          have s544 := gSg.at xq535 sS533.1 t518 rfl (by decide) s523
          have s545 := gSg.at xq535 sS533.1 t519 rfl (by decide) s524
          have s546 := gSg.at xq535 sS533.1 t519 rfl (by decide) s525
          have s547 := gSg.at xq535 sS533.1 t519 rfl (by decide) s526
          have s548 := gSg.at xq535 sS533.1 t519 rfl (by decide) s527
          have s549 := gSg.at xq535 sS533.1 t518 rfl (by decide) s528
          have s550 := gSg.at xq535 sS533.1 t520 rfl (by decide) s529
          have s551 := gSg.at xq535 sS533.1 t520 rfl (by decide) s530
          have pr552 := gRn.gr xq535 sS533.1 rfl (by decide) (by decide) pr531
          have uq553 := gSg.uq xq535 uq532 (by decide)
          have sS554 : gSs rT 1027 tyq535 [56000, 56001, 56002, 56003, 71006, 114999] hq535 hq535 := gSs.rf xq535.1
          refine gz_s 1 (pc' := 112) (L' := [some (.ref x), some (.ref dr), some (.int (zi i))]) (S' := [.ref x]) rfl ?_
          refine gs_gtk rfl (by decide) rfl sS554.1 t537 rfl rfl s544 ?_
          refine gz_s 1 (pc' := 117) (L' := [some (.ref x), some (.ref dr), some (.int (zi i))]) (S' := [.int (zi 8), .ref sk]) rfl ?_
          have hl555 : hq535.2.2.2.1 cq535_0 = hq535.2.2.2.1 cq535_0 := congrFun sS554.2.2.2.2.1 cq535_0
          refine gz_call rfl (by decide) rfl (by decide) (by decide) (gcal_of rfl rfl rfl (Nat.le_of_ble_eq_true rfl) (gJ.recv (G := gGG) sS554.1 t539 rfl rfl)) (cw_putByte _ sS554.1 sk t539 8 ⟨by omega, by omega⟩ cq535_0 ecq535_0 tcq535_0 fq535_0 efq535_0 ⟨by omega, by omega⟩ (eeT (eeM (eHt tb (eeB (eeT (eeM (eeM (0, 0, 0, fun _ => 0) 216) 219) 67) 0) 64) 194) 11) (by omega) (by omega) uq553 yq535_0 yq535_1) (fun q556 _ wq556 => ?_)
          obtain ⟨pq556, oq556, hq556⟩ := q556
          obtain ⟨tyq556, xq556, cq556_0, ttq556, fq556_0, ecq556_0, tcq556_0, gq556, efq556_0, afq556_0, bfq556_0, uq556_0, uq556_1, uq556_2, uq556_3, uq556_4, uq556_5, uq556_6, uq556_7, yq556_0, yq556_1⟩ := wq556
          dsimp only at uq556_4 uq556_5 uq556_6 uq556_7
          refine ⟨_, gq556, ?_⟩
          show gz gPP gGG gcn _ _ 120 [some (.ref x), some (.ref dr), some (.int (zi i))] [] hq556 _
          have G557 : gSg [114] [] [56000, 56001, 56002, 56003, 71006, 114999] ty h tyq556 hq556 := gSg.tr (gSg.ss G536 sS554 (by decide)) xq556 (by decide) (by decide) (fun x hx => by cases hx)
          have t558 : tyq556 x = 71 := gSg.typ xq556 sS554.1 t537 rfl
          have t559 : tyq556 dr = 55 := gSg.typ xq556 sS554.1 t538 rfl
          have t560 : tyq556 sk = 56 := gSg.typ xq556 sS554.1 t539 rfl
          have t561 : tyq556 bv = 114 := gSg.typ xq556 sS554.1 t540 rfl
          have hl562 : hq556.2.2.2.1 bv = hq535.2.2.2.1 bv := gSg.len xq556 sS554.1 t540 rfl
          have t563 : tyq556 cq516_0 = 114 := gSg.typ xq556 sS554.1 t542 rfl
          have hl564 : hq556.2.2.2.1 cq516_0 = hq535.2.2.2.1 cq516_0 := gSg.len xq556 sS554.1 t542 rfl
          have t565 : tyq556 cq535_0 = 114 := gSg.typ xq556 sS554.1 tcq535_0 rfl
          have hl566 : hq556.2.2.2.1 cq535_0 = hq535.2.2.2.1 cq535_0 := gSg.len xq556 sS554.1 tcq535_0 rfl
          have s567 := gSg.at xq556 sS554.1 t537 rfl (by decide) s544
          have s568 := gSg.at xq556 sS554.1 t538 rfl (by decide) s545
          have s569 := gSg.at xq556 sS554.1 t538 rfl (by decide) s546
          have s570 := gSg.at xq556 sS554.1 t538 rfl (by decide) s547
          have s571 := gSg.at xq556 sS554.1 t538 rfl (by decide) s548
          have s572 := gSg.at xq556 sS554.1 t537 rfl (by decide) s549
          have s573 := gSg.at xq556 sS554.1 t539 rfl (by decide) s550
          have s574 := gSg.at xq556 sS554.1 t539 rfl (by decide) s551
          have pr575 := gRn.gr xq556 sS554.1 rfl (by decide) (by decide) pr552
          have uq576 := gSg.uq xq556 uq553 (by decide)
          have sS577 : gSs rT 1027 tyq556 [56000, 56001, 56002, 56003, 71006, 114999] hq556 hq556 := gSs.rf xq556.1
          refine gz_s 1 (pc' := 121) (L' := [some (.ref x), some (.ref dr), some (.int (zi i))]) (S' := [.ref x]) rfl ?_
          refine gs_gtk rfl (by decide) rfl sS577.1 t558 rfl rfl s567 ?_
          refine gz_s 1 (pc' := 125) (L' := [some (.ref x), some (.ref dr), some (.int (zi i))]) (S' := [.ref dr, .ref sk]) rfl ?_
          refine gs_gtk rfl (by decide) rfl sS577.1 t559 rfl rfl s570 ?_
          have hl578 : hq556.2.2.2.1 cq556_0 = hq556.2.2.2.1 cq556_0 := congrFun sS577.2.2.2.2.1 cq556_0
          refine gz_call rfl (by decide) rfl (by decide) (by decide) (gcal_of rfl rfl rfl (Nat.le_of_ble_eq_true rfl) (gJ.recv (G := gGG) sS577.1 t560 rfl rfl)) (cw_putTwo _ sS577.1 sk t560 hh ⟨by omega, by omega⟩ cq556_0 ecq556_0 tcq556_0 fq556_0 efq556_0 ⟨by omega, by omega⟩ (eeB (eeT (eeM (eHt tb (eeB (eeT (eeM (eeM (0, 0, 0, fun _ => 0) 216) 219) 67) 0) 64) 194) 11) 8) (by omega) (by omega) uq576 yq556_0 yq556_1) (fun q579 _ wq579 => ?_)
          obtain ⟨pq579, oq579, hq579⟩ := q579
          obtain ⟨tyq579, xq579, cq579_0, ttq579, fq579_0, ecq579_0, tcq579_0, gq579, efq579_0, afq579_0, bfq579_0, uq579_0, uq579_1, uq579_2, uq579_3, uq579_4, uq579_5, uq579_6, uq579_7, yq579_0, yq579_1⟩ := wq579
          dsimp only at uq579_4 uq579_5 uq579_6 uq579_7
          refine ⟨_, gq579, ?_⟩
          show gz gPP gGG gcn _ _ 131 [some (.ref x), some (.ref dr), some (.int (zi i))] [] hq579 _
          have G580 : gSg [114] [] [56000, 56001, 56002, 56003, 71006, 114999] ty h tyq579 hq579 := gSg.tr (gSg.ss G557 sS577 (by decide)) xq579 (by decide) (by decide) (fun x hx => by cases hx)
          have t581 : tyq579 x = 71 := gSg.typ xq579 sS577.1 t558 rfl
          have t582 : tyq579 dr = 55 := gSg.typ xq579 sS577.1 t559 rfl
          have t583 : tyq579 sk = 56 := gSg.typ xq579 sS577.1 t560 rfl
          have t584 : tyq579 bv = 114 := gSg.typ xq579 sS577.1 t561 rfl
          have hl585 : hq579.2.2.2.1 bv = hq556.2.2.2.1 bv := gSg.len xq579 sS577.1 t561 rfl
          have t586 : tyq579 cq516_0 = 114 := gSg.typ xq579 sS577.1 t563 rfl
          have hl587 : hq579.2.2.2.1 cq516_0 = hq556.2.2.2.1 cq516_0 := gSg.len xq579 sS577.1 t563 rfl
          have t588 : tyq579 cq535_0 = 114 := gSg.typ xq579 sS577.1 t565 rfl
          have hl589 : hq579.2.2.2.1 cq535_0 = hq556.2.2.2.1 cq535_0 := gSg.len xq579 sS577.1 t565 rfl
          have t590 : tyq579 cq556_0 = 114 := gSg.typ xq579 sS577.1 tcq556_0 rfl
          have hl591 : hq579.2.2.2.1 cq556_0 = hq556.2.2.2.1 cq556_0 := gSg.len xq579 sS577.1 tcq556_0 rfl
          have s592 := gSg.at xq579 sS577.1 t558 rfl (by decide) s567
          have s593 := gSg.at xq579 sS577.1 t559 rfl (by decide) s568
          have s594 := gSg.at xq579 sS577.1 t559 rfl (by decide) s569
          have s595 := gSg.at xq579 sS577.1 t559 rfl (by decide) s570
          have s596 := gSg.at xq579 sS577.1 t559 rfl (by decide) s571
          have s597 := gSg.at xq579 sS577.1 t558 rfl (by decide) s572
          have s598 := gSg.at xq579 sS577.1 t560 rfl (by decide) s573
          have s599 := gSg.at xq579 sS577.1 t560 rfl (by decide) s574
          have pr600 := gRn.gr xq579 sS577.1 rfl (by decide) (by decide) pr575
          have uq601 := gSg.uq xq579 uq576 (by decide)
          have sS602 : gSs rT 1027 tyq579 [56000, 56001, 56002, 56003, 71006, 114999] hq579 hq579 := gSs.rf xq579.1
          refine gz_s 1 (pc' := 132) (L' := [some (.ref x), some (.ref dr), some (.int (zi i))]) (S' := [.ref x]) rfl ?_
          refine gs_gtk rfl (by decide) rfl sS602.1 t581 rfl rfl s592 ?_
          refine gz_s 1 (pc' := 136) (L' := [some (.ref x), some (.ref dr), some (.int (zi i))]) (S' := [.ref dr, .ref sk]) rfl ?_
          refine gs_gtk rfl (by decide) rfl sS602.1 t582 rfl rfl s596 ?_
          have hl603 : hq579.2.2.2.1 cq579_0 = hq579.2.2.2.1 cq579_0 := congrFun sS602.2.2.2.2.1 cq579_0
          refine gz_call rfl (by decide) rfl (by decide) (by decide) (gcal_of rfl rfl rfl (Nat.le_of_ble_eq_true rfl) (gJ.recv (G := gGG) sS602.1 t583 rfl rfl)) (cw_putTwo _ sS602.1 sk t583 ww ⟨by omega, by omega⟩ cq579_0 ecq579_0 tcq579_0 fq579_0 efq579_0 ⟨by omega, by omega⟩ (eeT (eeB (eeT (eeM (eHt tb (eeB (eeT (eeM (eeM (0, 0, 0, fun _ => 0) 216) 219) 67) 0) 64) 194) 11) 8) hh) (by omega) (by omega) uq601 yq579_0 yq579_1) (fun q604 _ wq604 => ?_)
          obtain ⟨pq604, oq604, hq604⟩ := q604
          obtain ⟨tyq604, xq604, cq604_0, ttq604, fq604_0, ecq604_0, tcq604_0, gq604, efq604_0, afq604_0, bfq604_0, uq604_0, uq604_1, uq604_2, uq604_3, uq604_4, uq604_5, uq604_6, uq604_7, yq604_0, yq604_1⟩ := wq604
          dsimp only at uq604_4 uq604_5 uq604_6 uq604_7
          refine ⟨_, gq604, ?_⟩
          show gz gPP gGG gcn _ _ 142 [some (.ref x), some (.ref dr), some (.int (zi i))] [] hq604 _
          have G605 : gSg [114] [] [56000, 56001, 56002, 56003, 71006, 114999] ty h tyq604 hq604 := gSg.tr (gSg.ss G580 sS602 (by decide)) xq604 (by decide) (by decide) (fun x hx => by cases hx)
          have t606 : tyq604 x = 71 := gSg.typ xq604 sS602.1 t581 rfl
          have t607 : tyq604 dr = 55 := gSg.typ xq604 sS602.1 t582 rfl
          have t608 : tyq604 sk = 56 := gSg.typ xq604 sS602.1 t583 rfl
          have t609 : tyq604 bv = 114 := gSg.typ xq604 sS602.1 t584 rfl
          have hl610 : hq604.2.2.2.1 bv = hq579.2.2.2.1 bv := gSg.len xq604 sS602.1 t584 rfl
          have t611 : tyq604 cq516_0 = 114 := gSg.typ xq604 sS602.1 t586 rfl
          have hl612 : hq604.2.2.2.1 cq516_0 = hq579.2.2.2.1 cq516_0 := gSg.len xq604 sS602.1 t586 rfl
          have t613 : tyq604 cq535_0 = 114 := gSg.typ xq604 sS602.1 t588 rfl
          have hl614 : hq604.2.2.2.1 cq535_0 = hq579.2.2.2.1 cq535_0 := gSg.len xq604 sS602.1 t588 rfl
          have t615 : tyq604 cq556_0 = 114 := gSg.typ xq604 sS602.1 t590 rfl
          have hl616 : hq604.2.2.2.1 cq556_0 = hq579.2.2.2.1 cq556_0 := gSg.len xq604 sS602.1 t590 rfl
          have t617 : tyq604 cq579_0 = 114 := gSg.typ xq604 sS602.1 tcq579_0 rfl
          have hl618 : hq604.2.2.2.1 cq579_0 = hq579.2.2.2.1 cq579_0 := gSg.len xq604 sS602.1 tcq579_0 rfl
          have s619 := gSg.at xq604 sS602.1 t581 rfl (by decide) s592
          have s620 := gSg.at xq604 sS602.1 t582 rfl (by decide) s593
          have s621 := gSg.at xq604 sS602.1 t582 rfl (by decide) s594
          have s622 := gSg.at xq604 sS602.1 t582 rfl (by decide) s595
          have s623 := gSg.at xq604 sS602.1 t582 rfl (by decide) s596
          have s624 := gSg.at xq604 sS602.1 t581 rfl (by decide) s597
          have s625 := gSg.at xq604 sS602.1 t583 rfl (by decide) s598
          have s626 := gSg.at xq604 sS602.1 t583 rfl (by decide) s599
          have pr627 := gRn.gr xq604 sS602.1 rfl (by decide) (by decide) pr600
          have uq628 := gSg.uq xq604 uq601 (by decide)
          have sS629 : gSs rT 1027 tyq604 [56000, 56001, 56002, 56003, 71006, 114999] hq604 hq604 := gSs.rf xq604.1
          refine gz_s 1 (pc' := 143) (L' := [some (.ref x), some (.ref dr), some (.int (zi i))]) (S' := [.ref x]) rfl ?_
          refine gs_gtk rfl (by decide) rfl sS629.1 t606 rfl rfl s619 ?_
          refine gz_s 1 (pc' := 147) (L' := [some (.ref x), some (.ref dr), some (.int (zi i))]) (S' := [.int (zi 1), .ref sk]) rfl ?_
          have hl630 : hq604.2.2.2.1 cq604_0 = hq604.2.2.2.1 cq604_0 := congrFun sS629.2.2.2.2.1 cq604_0
          refine gz_call rfl (by decide) rfl (by decide) (by decide) (gcal_of rfl rfl rfl (Nat.le_of_ble_eq_true rfl) (gJ.recv (G := gGG) sS629.1 t608 rfl rfl)) (cw_putByte _ sS629.1 sk t608 1 ⟨by omega, by omega⟩ cq604_0 ecq604_0 tcq604_0 fq604_0 efq604_0 ⟨by omega, by omega⟩ (eeT (eeT (eeB (eeT (eeM (eHt tb (eeB (eeT (eeM (eeM (0, 0, 0, fun _ => 0) 216) 219) 67) 0) 64) 194) 11) 8) hh) ww) (by omega) (by omega) uq628 yq604_0 yq604_1) (fun q631 _ wq631 => ?_)
          obtain ⟨pq631, oq631, hq631⟩ := q631
          obtain ⟨tyq631, xq631, cq631_0, ttq631, fq631_0, ecq631_0, tcq631_0, gq631, efq631_0, afq631_0, bfq631_0, uq631_0, uq631_1, uq631_2, uq631_3, uq631_4, uq631_5, uq631_6, uq631_7, yq631_0, yq631_1⟩ := wq631
          dsimp only at uq631_4 uq631_5 uq631_6 uq631_7
          refine ⟨_, gq631, ?_⟩
          show gz gPP gGG gcn _ _ 150 [some (.ref x), some (.ref dr), some (.int (zi i))] [] hq631 _
          have G632 : gSg [114] [] [56000, 56001, 56002, 56003, 71006, 114999] ty h tyq631 hq631 := gSg.tr (gSg.ss G605 sS629 (by decide)) xq631 (by decide) (by decide) (fun x hx => by cases hx)
          have t633 : tyq631 x = 71 := gSg.typ xq631 sS629.1 t606 rfl
          have t634 : tyq631 dr = 55 := gSg.typ xq631 sS629.1 t607 rfl
          have t635 : tyq631 sk = 56 := gSg.typ xq631 sS629.1 t608 rfl
          have t636 : tyq631 bv = 114 := gSg.typ xq631 sS629.1 t609 rfl
          have hl637 : hq631.2.2.2.1 bv = hq604.2.2.2.1 bv := gSg.len xq631 sS629.1 t609 rfl
          have t638 : tyq631 cq516_0 = 114 := gSg.typ xq631 sS629.1 t611 rfl
          have hl639 : hq631.2.2.2.1 cq516_0 = hq604.2.2.2.1 cq516_0 := gSg.len xq631 sS629.1 t611 rfl
          have t640 : tyq631 cq535_0 = 114 := gSg.typ xq631 sS629.1 t613 rfl
          have hl641 : hq631.2.2.2.1 cq535_0 = hq604.2.2.2.1 cq535_0 := gSg.len xq631 sS629.1 t613 rfl
          have t642 : tyq631 cq556_0 = 114 := gSg.typ xq631 sS629.1 t615 rfl
          have hl643 : hq631.2.2.2.1 cq556_0 = hq604.2.2.2.1 cq556_0 := gSg.len xq631 sS629.1 t615 rfl
          have t644 : tyq631 cq579_0 = 114 := gSg.typ xq631 sS629.1 t617 rfl
          have hl645 : hq631.2.2.2.1 cq579_0 = hq604.2.2.2.1 cq579_0 := gSg.len xq631 sS629.1 t617 rfl
          have t646 : tyq631 cq604_0 = 114 := gSg.typ xq631 sS629.1 tcq604_0 rfl
          have hl647 : hq631.2.2.2.1 cq604_0 = hq604.2.2.2.1 cq604_0 := gSg.len xq631 sS629.1 tcq604_0 rfl
          have s648 := gSg.at xq631 sS629.1 t606 rfl (by decide) s619
          have s649 := gSg.at xq631 sS629.1 t607 rfl (by decide) s620
          have s650 := gSg.at xq631 sS629.1 t607 rfl (by decide) s621
          have s651 := gSg.at xq631 sS629.1 t607 rfl (by decide) s622
          have s652 := gSg.at xq631 sS629.1 t607 rfl (by decide) s623
          have s653 := gSg.at xq631 sS629.1 t606 rfl (by decide) s624
          have s654 := gSg.at xq631 sS629.1 t608 rfl (by decide) s625
          have s655 := gSg.at xq631 sS629.1 t608 rfl (by decide) s626
          have pr656 := gRn.gr xq631 sS629.1 rfl (by decide) (by decide) pr627
          have uq657 := gSg.uq xq631 uq628 (by decide)
          have sS658 : gSs rT 1027 tyq631 [56000, 56001, 56002, 56003, 71006, 114999] hq631 hq631 := gSs.rf xq631.1
          refine gz_s 1 (pc' := 151) (L' := [some (.ref x), some (.ref dr), some (.int (zi i))]) (S' := [.ref x]) rfl ?_
          refine gs_gtk rfl (by decide) rfl sS658.1 t633 rfl rfl s648 ?_
          refine gz_s 1 (pc' := 155) (L' := [some (.ref x), some (.ref dr), some (.int (zi i))]) (S' := [.int (zi 1), .ref sk]) rfl ?_
          have hl659 : hq631.2.2.2.1 cq631_0 = hq631.2.2.2.1 cq631_0 := congrFun sS658.2.2.2.2.1 cq631_0
          refine gz_call rfl (by decide) rfl (by decide) (by decide) (gcal_of rfl rfl rfl (Nat.le_of_ble_eq_true rfl) (gJ.recv (G := gGG) sS658.1 t635 rfl rfl)) (cw_putByte _ sS658.1 sk t635 1 ⟨by omega, by omega⟩ cq631_0 ecq631_0 tcq631_0 fq631_0 efq631_0 ⟨by omega, by omega⟩ (eeB (eeT (eeT (eeB (eeT (eeM (eHt tb (eeB (eeT (eeM (eeM (0, 0, 0, fun _ => 0) 216) 219) 67) 0) 64) 194) 11) 8) hh) ww) 1) (by omega) (by omega) uq657 yq631_0 yq631_1) (fun q660 _ wq660 => ?_)
          obtain ⟨pq660, oq660, hq660⟩ := q660
          obtain ⟨tyq660, xq660, cq660_0, ttq660, fq660_0, ecq660_0, tcq660_0, gq660, efq660_0, afq660_0, bfq660_0, uq660_0, uq660_1, uq660_2, uq660_3, uq660_4, uq660_5, uq660_6, uq660_7, yq660_0, yq660_1⟩ := wq660
          dsimp only at uq660_4 uq660_5 uq660_6 uq660_7
          refine ⟨_, gq660, ?_⟩
          show gz gPP gGG gcn _ _ 158 [some (.ref x), some (.ref dr), some (.int (zi i))] [] hq660 _
          have G661 : gSg [114] [] [56000, 56001, 56002, 56003, 71006, 114999] ty h tyq660 hq660 := gSg.tr (gSg.ss G632 sS658 (by decide)) xq660 (by decide) (by decide) (fun x hx => by cases hx)
          have t662 : tyq660 x = 71 := gSg.typ xq660 sS658.1 t633 rfl
          have t663 : tyq660 dr = 55 := gSg.typ xq660 sS658.1 t634 rfl
          have t664 : tyq660 sk = 56 := gSg.typ xq660 sS658.1 t635 rfl
          have t665 : tyq660 bv = 114 := gSg.typ xq660 sS658.1 t636 rfl
          have hl666 : hq660.2.2.2.1 bv = hq631.2.2.2.1 bv := gSg.len xq660 sS658.1 t636 rfl
          have t667 : tyq660 cq516_0 = 114 := gSg.typ xq660 sS658.1 t638 rfl
          have hl668 : hq660.2.2.2.1 cq516_0 = hq631.2.2.2.1 cq516_0 := gSg.len xq660 sS658.1 t638 rfl
          have t669 : tyq660 cq535_0 = 114 := gSg.typ xq660 sS658.1 t640 rfl
          have hl670 : hq660.2.2.2.1 cq535_0 = hq631.2.2.2.1 cq535_0 := gSg.len xq660 sS658.1 t640 rfl
          have t671 : tyq660 cq556_0 = 114 := gSg.typ xq660 sS658.1 t642 rfl
          have hl672 : hq660.2.2.2.1 cq556_0 = hq631.2.2.2.1 cq556_0 := gSg.len xq660 sS658.1 t642 rfl
          have t673 : tyq660 cq579_0 = 114 := gSg.typ xq660 sS658.1 t644 rfl
          have hl674 : hq660.2.2.2.1 cq579_0 = hq631.2.2.2.1 cq579_0 := gSg.len xq660 sS658.1 t644 rfl
          have t675 : tyq660 cq604_0 = 114 := gSg.typ xq660 sS658.1 t646 rfl
          have hl676 : hq660.2.2.2.1 cq604_0 = hq631.2.2.2.1 cq604_0 := gSg.len xq660 sS658.1 t646 rfl
          have t677 : tyq660 cq631_0 = 114 := gSg.typ xq660 sS658.1 tcq631_0 rfl
          have hl678 : hq660.2.2.2.1 cq631_0 = hq631.2.2.2.1 cq631_0 := gSg.len xq660 sS658.1 tcq631_0 rfl
          have s679 := gSg.at xq660 sS658.1 t633 rfl (by decide) s648
          have s680 := gSg.at xq660 sS658.1 t634 rfl (by decide) s649
          have s681 := gSg.at xq660 sS658.1 t634 rfl (by decide) s650
          have s682 := gSg.at xq660 sS658.1 t634 rfl (by decide) s651
          have s683 := gSg.at xq660 sS658.1 t634 rfl (by decide) s652
          have s684 := gSg.at xq660 sS658.1 t633 rfl (by decide) s653
          have s685 := gSg.at xq660 sS658.1 t635 rfl (by decide) s654
          have s686 := gSg.at xq660 sS658.1 t635 rfl (by decide) s655
          have pr687 := gRn.gr xq660 sS658.1 rfl (by decide) (by decide) pr656
          have uq688 := gSg.uq xq660 uq657 (by decide)
          have sS689 : gSs rT 1027 tyq660 [56000, 56001, 56002, 56003, 71006, 114999] hq660 hq660 := gSs.rf xq660.1
          refine gz_s 1 (pc' := 159) (L' := [some (.ref x), some (.ref dr), some (.int (zi i))]) (S' := [.ref x]) rfl ?_
          refine gs_gtk rfl (by decide) rfl sS689.1 t662 rfl rfl s679 ?_
          refine gz_s 1 (pc' := 164) (L' := [some (.ref x), some (.ref dr), some (.int (zi i))]) (S' := [.int (zi 17), .ref sk]) rfl ?_
          have hl690 : hq660.2.2.2.1 cq660_0 = hq660.2.2.2.1 cq660_0 := congrFun sS689.2.2.2.2.1 cq660_0
          refine gz_call rfl (by decide) rfl (by decide) (by decide) (gcal_of rfl rfl rfl (Nat.le_of_ble_eq_true rfl) (gJ.recv (G := gGG) sS689.1 t664 rfl rfl)) (cw_putByte _ sS689.1 sk t664 17 ⟨by omega, by omega⟩ cq660_0 ecq660_0 tcq660_0 fq660_0 efq660_0 ⟨by omega, by omega⟩ (eeB (eeB (eeT (eeT (eeB (eeT (eeM (eHt tb (eeB (eeT (eeM (eeM (0, 0, 0, fun _ => 0) 216) 219) 67) 0) 64) 194) 11) 8) hh) ww) 1) 1) (by omega) (by omega) uq688 yq660_0 yq660_1) (fun q691 _ wq691 => ?_)
          obtain ⟨pq691, oq691, hq691⟩ := q691
          obtain ⟨tyq691, xq691, cq691_0, ttq691, fq691_0, ecq691_0, tcq691_0, gq691, efq691_0, afq691_0, bfq691_0, uq691_0, uq691_1, uq691_2, uq691_3, uq691_4, uq691_5, uq691_6, uq691_7, yq691_0, yq691_1⟩ := wq691
          dsimp only at uq691_4 uq691_5 uq691_6 uq691_7
          refine ⟨_, gq691, ?_⟩
          show gz gPP gGG gcn _ _ 167 [some (.ref x), some (.ref dr), some (.int (zi i))] [] hq691 _
          have G692 : gSg [114] [] [56000, 56001, 56002, 56003, 71006, 114999] ty h tyq691 hq691 := gSg.tr (gSg.ss G661 sS689 (by decide)) xq691 (by decide) (by decide) (fun x hx => by cases hx)
          have t693 : tyq691 x = 71 := gSg.typ xq691 sS689.1 t662 rfl
          have t694 : tyq691 dr = 55 := gSg.typ xq691 sS689.1 t663 rfl
          have t695 : tyq691 sk = 56 := gSg.typ xq691 sS689.1 t664 rfl
          have t696 : tyq691 bv = 114 := gSg.typ xq691 sS689.1 t665 rfl
          have hl697 : hq691.2.2.2.1 bv = hq660.2.2.2.1 bv := gSg.len xq691 sS689.1 t665 rfl
          have t698 : tyq691 cq516_0 = 114 := gSg.typ xq691 sS689.1 t667 rfl
          have hl699 : hq691.2.2.2.1 cq516_0 = hq660.2.2.2.1 cq516_0 := gSg.len xq691 sS689.1 t667 rfl
          have t700 : tyq691 cq535_0 = 114 := gSg.typ xq691 sS689.1 t669 rfl
          have hl701 : hq691.2.2.2.1 cq535_0 = hq660.2.2.2.1 cq535_0 := gSg.len xq691 sS689.1 t669 rfl
          have t702 : tyq691 cq556_0 = 114 := gSg.typ xq691 sS689.1 t671 rfl
          have hl703 : hq691.2.2.2.1 cq556_0 = hq660.2.2.2.1 cq556_0 := gSg.len xq691 sS689.1 t671 rfl
          have t704 : tyq691 cq579_0 = 114 := gSg.typ xq691 sS689.1 t673 rfl
          have hl705 : hq691.2.2.2.1 cq579_0 = hq660.2.2.2.1 cq579_0 := gSg.len xq691 sS689.1 t673 rfl
          have t706 : tyq691 cq604_0 = 114 := gSg.typ xq691 sS689.1 t675 rfl
          have hl707 : hq691.2.2.2.1 cq604_0 = hq660.2.2.2.1 cq604_0 := gSg.len xq691 sS689.1 t675 rfl
          have t708 : tyq691 cq631_0 = 114 := gSg.typ xq691 sS689.1 t677 rfl
          have hl709 : hq691.2.2.2.1 cq631_0 = hq660.2.2.2.1 cq631_0 := gSg.len xq691 sS689.1 t677 rfl
          have t710 : tyq691 cq660_0 = 114 := gSg.typ xq691 sS689.1 tcq660_0 rfl
          have hl711 : hq691.2.2.2.1 cq660_0 = hq660.2.2.2.1 cq660_0 := gSg.len xq691 sS689.1 tcq660_0 rfl
          have s712 := gSg.at xq691 sS689.1 t662 rfl (by decide) s679
          have s713 := gSg.at xq691 sS689.1 t663 rfl (by decide) s680
          have s714 := gSg.at xq691 sS689.1 t663 rfl (by decide) s681
          have s715 := gSg.at xq691 sS689.1 t663 rfl (by decide) s682
          have s716 := gSg.at xq691 sS689.1 t663 rfl (by decide) s683
          have s717 := gSg.at xq691 sS689.1 t662 rfl (by decide) s684
          have s718 := gSg.at xq691 sS689.1 t664 rfl (by decide) s685
          have s719 := gSg.at xq691 sS689.1 t664 rfl (by decide) s686
          have pr720 := gRn.gr xq691 sS689.1 rfl (by decide) (by decide) pr687
          have uq721 := gSg.uq xq691 uq688 (by decide)
          have sS722 : gSs rT 1027 tyq691 [56000, 56001, 56002, 56003, 71006, 114999] hq691 hq691 := gSs.rf xq691.1
          refine gz_s 1 (pc' := 168) (L' := [some (.ref x), some (.ref dr), some (.int (zi i))]) (S' := [.ref x]) rfl ?_
          refine gs_gtk rfl (by decide) rfl sS722.1 t693 rfl rfl s712 ?_
          refine gz_s 1 (pc' := 172) (L' := [some (.ref x), some (.ref dr), some (.int (zi i))]) (S' := [.int (zi 0), .ref sk]) rfl ?_
          have hl723 : hq691.2.2.2.1 cq691_0 = hq691.2.2.2.1 cq691_0 := congrFun sS722.2.2.2.2.1 cq691_0
          refine gz_call rfl (by decide) rfl (by decide) (by decide) (gcal_of rfl rfl rfl (Nat.le_of_ble_eq_true rfl) (gJ.recv (G := gGG) sS722.1 t695 rfl rfl)) (cw_putByte _ sS722.1 sk t695 0 ⟨by omega, by omega⟩ cq691_0 ecq691_0 tcq691_0 fq691_0 efq691_0 ⟨by omega, by omega⟩ (eeB (eeB (eeB (eeT (eeT (eeB (eeT (eeM (eHt tb (eeB (eeT (eeM (eeM (0, 0, 0, fun _ => 0) 216) 219) 67) 0) 64) 194) 11) 8) hh) ww) 1) 1) 17) (by omega) (by omega) uq721 yq691_0 yq691_1) (fun q724 _ wq724 => ?_)
          obtain ⟨pq724, oq724, hq724⟩ := q724
          obtain ⟨tyq724, xq724, cq724_0, ttq724, fq724_0, ecq724_0, tcq724_0, gq724, efq724_0, afq724_0, bfq724_0, uq724_0, uq724_1, uq724_2, uq724_3, uq724_4, uq724_5, uq724_6, uq724_7, yq724_0, yq724_1⟩ := wq724
          dsimp only at uq724_4 uq724_5 uq724_6 uq724_7
          refine ⟨_, gq724, ?_⟩
          show gz gPP gGG gcn _ _ 175 [some (.ref x), some (.ref dr), some (.int (zi i))] [] hq724 _
          have G725 : gSg [114] [] [56000, 56001, 56002, 56003, 71006, 114999] ty h tyq724 hq724 := gSg.tr (gSg.ss G692 sS722 (by decide)) xq724 (by decide) (by decide) (fun x hx => by cases hx)
          have t726 : tyq724 x = 71 := gSg.typ xq724 sS722.1 t693 rfl
          have t727 : tyq724 dr = 55 := gSg.typ xq724 sS722.1 t694 rfl
          have t728 : tyq724 sk = 56 := gSg.typ xq724 sS722.1 t695 rfl
          have t729 : tyq724 bv = 114 := gSg.typ xq724 sS722.1 t696 rfl
          have hl730 : hq724.2.2.2.1 bv = hq691.2.2.2.1 bv := gSg.len xq724 sS722.1 t696 rfl
          have t731 : tyq724 cq516_0 = 114 := gSg.typ xq724 sS722.1 t698 rfl
          have hl732 : hq724.2.2.2.1 cq516_0 = hq691.2.2.2.1 cq516_0 := gSg.len xq724 sS722.1 t698 rfl
          have t733 : tyq724 cq535_0 = 114 := gSg.typ xq724 sS722.1 t700 rfl
          have hl734 : hq724.2.2.2.1 cq535_0 = hq691.2.2.2.1 cq535_0 := gSg.len xq724 sS722.1 t700 rfl
          have t735 : tyq724 cq556_0 = 114 := gSg.typ xq724 sS722.1 t702 rfl
          have hl736 : hq724.2.2.2.1 cq556_0 = hq691.2.2.2.1 cq556_0 := gSg.len xq724 sS722.1 t702 rfl
          have t737 : tyq724 cq579_0 = 114 := gSg.typ xq724 sS722.1 t704 rfl
          have hl738 : hq724.2.2.2.1 cq579_0 = hq691.2.2.2.1 cq579_0 := gSg.len xq724 sS722.1 t704 rfl
          have t739 : tyq724 cq604_0 = 114 := gSg.typ xq724 sS722.1 t706 rfl
          have hl740 : hq724.2.2.2.1 cq604_0 = hq691.2.2.2.1 cq604_0 := gSg.len xq724 sS722.1 t706 rfl
          have t741 : tyq724 cq631_0 = 114 := gSg.typ xq724 sS722.1 t708 rfl
          have hl742 : hq724.2.2.2.1 cq631_0 = hq691.2.2.2.1 cq631_0 := gSg.len xq724 sS722.1 t708 rfl
          have t743 : tyq724 cq660_0 = 114 := gSg.typ xq724 sS722.1 t710 rfl
          have hl744 : hq724.2.2.2.1 cq660_0 = hq691.2.2.2.1 cq660_0 := gSg.len xq724 sS722.1 t710 rfl
          have t745 : tyq724 cq691_0 = 114 := gSg.typ xq724 sS722.1 tcq691_0 rfl
          have hl746 : hq724.2.2.2.1 cq691_0 = hq691.2.2.2.1 cq691_0 := gSg.len xq724 sS722.1 tcq691_0 rfl
          have s747 := gSg.at xq724 sS722.1 t693 rfl (by decide) s712
          have s748 := gSg.at xq724 sS722.1 t694 rfl (by decide) s713
          have s749 := gSg.at xq724 sS722.1 t694 rfl (by decide) s714
          have s750 := gSg.at xq724 sS722.1 t694 rfl (by decide) s715
          have s751 := gSg.at xq724 sS722.1 t694 rfl (by decide) s716
          have s752 := gSg.at xq724 sS722.1 t693 rfl (by decide) s717
          have s753 := gSg.at xq724 sS722.1 t695 rfl (by decide) s718
          have s754 := gSg.at xq724 sS722.1 t695 rfl (by decide) s719
          have pr755 := gRn.gr xq724 sS722.1 rfl (by decide) (by decide) pr720
          have uq756 := gSg.uq xq724 uq721 (by decide)
          have sS757 : gSs rT 1027 tyq724 [56000, 56001, 56002, 56003, 71006, 114999] hq724 hq724 := gSs.rf xq724.1
          refine gz_s 1 (pc' := 176) (L' := [some (.ref x), some (.ref dr), some (.int (zi i))]) (S' := [.ref x]) rfl ?_
          refine gs_gtk rfl (by decide) rfl sS757.1 t726 rfl rfl s752 ?_
          by_cases hc758 : (iv0 : Int) ≤ 0
          · refine gy_ifT (pc' := 211) rfl (by decide) (by decide) (by omega) hc758 ?_
            have hk759 : eHd tb sc hh ww iv0 = eeB (eeB (eeB (eeB (eeT (eeT (eeB (eeT (eeM (eHt tb (eeB (eeT (eeM (eeM (0, 0, 0, fun _ => 0) 216) 219) 67) 0) 64) 194) 11) 8) hh) ww) 1) 1) 17) 0 := by unfold eHd; dsimp only; rw [if_neg (show ¬ 0 < iv0 by omega), if_pos (show 0 < sc by omega)]
            have hk759_1 : (eHd tb sc hh ww iv0).1 = (eeB (eeB (eeB (eeB (eeT (eeT (eeB (eeT (eeM (eHt tb (eeB (eeT (eeM (eeM (0, 0, 0, fun _ => 0) 216) 219) 67) 0) 64) 194) 11) 8) hh) ww) 1) 1) 17) 0).1 := by rw [hk759]
            have hk759_21 : (eHd tb sc hh ww iv0).2.1 = (eeB (eeB (eeB (eeB (eeT (eeT (eeB (eeT (eeM (eHt tb (eeB (eeT (eeM (eeM (0, 0, 0, fun _ => 0) 216) 219) 67) 0) 64) 194) 11) 8) hh) ww) 1) 1) 17) 0).2.1 := by rw [hk759]
            have hk759_221 : (eHd tb sc hh ww iv0).2.2.1 = (eeB (eeB (eeB (eeB (eeT (eeT (eeB (eeT (eeM (eHt tb (eeB (eeT (eeM (eeM (0, 0, 0, fun _ => 0) 216) 219) 67) 0) 64) 194) 11) 8) hh) ww) 1) 1) 17) 0).2.2.1 := by rw [hk759]
            have hsw760 : gSW tyq724 cq724_0 (eHd tb sc hh ww iv0) hq724 := by rw [hk759]; exact yq724_0
            have hok761 : eeOk (eHd tb sc hh ww iv0) := by rw [hk759]; exact yq724_1
            have hoc762 := hok761.cur
            have hl763 : 1024 ≤ hq724.2.2.2.1 bv ∧ hq724.2.2.2.1 bv ≤ 1000000 := gJ.rowl (G := gGG) sS757.1 t729 rfl
            have hl764 : 1024 ≤ hq724.2.2.2.1 cq516_0 ∧ hq724.2.2.2.1 cq516_0 ≤ 1000000 := gJ.rowl (G := gGG) sS757.1 t731 rfl
            have hl765 : 1024 ≤ hq724.2.2.2.1 cq535_0 ∧ hq724.2.2.2.1 cq535_0 ≤ 1000000 := gJ.rowl (G := gGG) sS757.1 t733 rfl
            have hl766 : 1024 ≤ hq724.2.2.2.1 cq556_0 ∧ hq724.2.2.2.1 cq556_0 ≤ 1000000 := gJ.rowl (G := gGG) sS757.1 t735 rfl
            have hl767 : 1024 ≤ hq724.2.2.2.1 cq579_0 ∧ hq724.2.2.2.1 cq579_0 ≤ 1000000 := gJ.rowl (G := gGG) sS757.1 t737 rfl
            have hl768 : 1024 ≤ hq724.2.2.2.1 cq604_0 ∧ hq724.2.2.2.1 cq604_0 ≤ 1000000 := gJ.rowl (G := gGG) sS757.1 t739 rfl
            have hl769 : 1024 ≤ hq724.2.2.2.1 cq631_0 ∧ hq724.2.2.2.1 cq631_0 ≤ 1000000 := gJ.rowl (G := gGG) sS757.1 t741 rfl
            have hl770 : 1024 ≤ hq724.2.2.2.1 cq660_0 ∧ hq724.2.2.2.1 cq660_0 ≤ 1000000 := gJ.rowl (G := gGG) sS757.1 t743 rfl
            have hl771 : 1024 ≤ hq724.2.2.2.1 cq691_0 ∧ hq724.2.2.2.1 cq691_0 ≤ 1000000 := gJ.rowl (G := gGG) sS757.1 t745 rfl
            have hl772 : 1024 ≤ hq724.2.2.2.1 cq724_0 ∧ hq724.2.2.2.1 cq724_0 ≤ 1000000 := gJ.rowl (G := gGG) sS757.1 tcq724_0 rfl
            have G773 : gSg [114] [] [56000, 56001, 56002, 56003, 71006, 114999] ty h tyq724 hq724 := gSg.ss G725 sS757 (by decide)
            exact gz_end (I := .return_) (len := 1) rfl (Or.inl rfl) ⟨tyq724, G773, cq724_0, trivial, fq724_0, fq9_1, fq9_2, iv0, ecq724_0, tcq724_0, rfl, efq724_0, (by omega), (by omega), s753, (by omega), (by omega), s754, (by omega), (by omega), s752, (by omega), (by omega), (by omega), (by omega), (by omega), (by omega), (by omega), (by omega), (by omega), (by dsimp only; omega), (by dsimp only; omega), (by dsimp only; omega), (by dsimp only; omega), hsw760, hok761⟩
          · refine gy_ifF rfl (by decide) (by decide) (by omega) hc758 ?_
            refine gz_s 1 (pc' := 183) (L' := [some (.ref x), some (.ref dr), some (.int (zi i))]) (S' := [.ref x]) rfl ?_
            refine gs_gtk rfl (by decide) rfl sS757.1 t726 rfl rfl s747 ?_
            refine gz_s 1 (pc' := 189) (L' := [some (.ref x), some (.ref dr), some (.int (zi i))]) (S' := [.int (zi 221), .ref sk]) rfl ?_
            have hl774 : hq724.2.2.2.1 cq724_0 = hq724.2.2.2.1 cq724_0 := congrFun sS757.2.2.2.2.1 cq724_0
            refine gz_call rfl (by decide) rfl (by decide) (by decide) (gcal_of rfl rfl rfl (Nat.le_of_ble_eq_true rfl) (gJ.recv (G := gGG) sS757.1 t728 rfl rfl)) (cw_putMarker _ sS757.1 sk t728 221 ⟨by omega, by omega⟩ cq724_0 ecq724_0 tcq724_0 fq724_0 efq724_0 ⟨by omega, by omega⟩ (eeB (eeB (eeB (eeB (eeT (eeT (eeB (eeT (eeM (eHt tb (eeB (eeT (eeM (eeM (0, 0, 0, fun _ => 0) 216) 219) 67) 0) 64) 194) 11) 8) hh) ww) 1) 1) 17) 0) (by omega) (by omega) uq756 yq724_0 yq724_1) (fun q775 _ wq775 => ?_)
            obtain ⟨pq775, oq775, hq775⟩ := q775
            obtain ⟨tyq775, xq775, cq775_0, ttq775, fq775_0, ecq775_0, tcq775_0, gq775, efq775_0, afq775_0, bfq775_0, uq775_0, uq775_1, uq775_2, uq775_3, uq775_4, uq775_5, uq775_6, uq775_7, yq775_0, yq775_1⟩ := wq775
            dsimp only at uq775_4 uq775_5 uq775_6 uq775_7
            refine ⟨_, gq775, ?_⟩
            show gz gPP gGG gcn _ _ 192 [some (.ref x), some (.ref dr), some (.int (zi i))] [] hq775 _
            have G776 : gSg [114] [] [56000, 56001, 56002, 56003, 71006, 114999] ty h tyq775 hq775 := gSg.tr (gSg.ss G725 sS757 (by decide)) xq775 (by decide) (by decide) (fun x hx => by cases hx)
            have t777 : tyq775 x = 71 := gSg.typ xq775 sS757.1 t726 rfl
            have t778 : tyq775 dr = 55 := gSg.typ xq775 sS757.1 t727 rfl
            have t779 : tyq775 sk = 56 := gSg.typ xq775 sS757.1 t728 rfl
            have t780 : tyq775 bv = 114 := gSg.typ xq775 sS757.1 t729 rfl
            have hl781 : hq775.2.2.2.1 bv = hq724.2.2.2.1 bv := gSg.len xq775 sS757.1 t729 rfl
            have t782 : tyq775 cq516_0 = 114 := gSg.typ xq775 sS757.1 t731 rfl
            have hl783 : hq775.2.2.2.1 cq516_0 = hq724.2.2.2.1 cq516_0 := gSg.len xq775 sS757.1 t731 rfl
            have t784 : tyq775 cq535_0 = 114 := gSg.typ xq775 sS757.1 t733 rfl
            have hl785 : hq775.2.2.2.1 cq535_0 = hq724.2.2.2.1 cq535_0 := gSg.len xq775 sS757.1 t733 rfl
            have t786 : tyq775 cq556_0 = 114 := gSg.typ xq775 sS757.1 t735 rfl
            have hl787 : hq775.2.2.2.1 cq556_0 = hq724.2.2.2.1 cq556_0 := gSg.len xq775 sS757.1 t735 rfl
            have t788 : tyq775 cq579_0 = 114 := gSg.typ xq775 sS757.1 t737 rfl
            have hl789 : hq775.2.2.2.1 cq579_0 = hq724.2.2.2.1 cq579_0 := gSg.len xq775 sS757.1 t737 rfl
            have t790 : tyq775 cq604_0 = 114 := gSg.typ xq775 sS757.1 t739 rfl
            have hl791 : hq775.2.2.2.1 cq604_0 = hq724.2.2.2.1 cq604_0 := gSg.len xq775 sS757.1 t739 rfl
            have t792 : tyq775 cq631_0 = 114 := gSg.typ xq775 sS757.1 t741 rfl
            have hl793 : hq775.2.2.2.1 cq631_0 = hq724.2.2.2.1 cq631_0 := gSg.len xq775 sS757.1 t741 rfl
            have t794 : tyq775 cq660_0 = 114 := gSg.typ xq775 sS757.1 t743 rfl
            have hl795 : hq775.2.2.2.1 cq660_0 = hq724.2.2.2.1 cq660_0 := gSg.len xq775 sS757.1 t743 rfl
            have t796 : tyq775 cq691_0 = 114 := gSg.typ xq775 sS757.1 t745 rfl
            have hl797 : hq775.2.2.2.1 cq691_0 = hq724.2.2.2.1 cq691_0 := gSg.len xq775 sS757.1 t745 rfl
            have t798 : tyq775 cq724_0 = 114 := gSg.typ xq775 sS757.1 tcq724_0 rfl
            have hl799 : hq775.2.2.2.1 cq724_0 = hq724.2.2.2.1 cq724_0 := gSg.len xq775 sS757.1 tcq724_0 rfl
            have s800 := gSg.at xq775 sS757.1 t726 rfl (by decide) s747
            have s801 := gSg.at xq775 sS757.1 t727 rfl (by decide) s748
            have s802 := gSg.at xq775 sS757.1 t727 rfl (by decide) s749
            have s803 := gSg.at xq775 sS757.1 t727 rfl (by decide) s750
            have s804 := gSg.at xq775 sS757.1 t727 rfl (by decide) s751
            have s805 := gSg.at xq775 sS757.1 t726 rfl (by decide) s752
            have s806 := gSg.at xq775 sS757.1 t728 rfl (by decide) s753
            have s807 := gSg.at xq775 sS757.1 t728 rfl (by decide) s754
            have pr808 := gRn.gr xq775 sS757.1 rfl (by decide) (by decide) pr755
            have uq809 := gSg.uq xq775 uq756 (by decide)
            have sS810 : gSs rT 1027 tyq775 [56000, 56001, 56002, 56003, 71006, 114999] hq775 hq775 := gSs.rf xq775.1
            refine gz_s 1 (pc' := 193) (L' := [some (.ref x), some (.ref dr), some (.int (zi i))]) (S' := [.ref x]) rfl ?_
            refine gs_gtk rfl (by decide) rfl sS810.1 t777 rfl rfl s800 ?_
            refine gz_s 1 (pc' := 197) (L' := [some (.ref x), some (.ref dr), some (.int (zi i))]) (S' := [.int (zi 4), .ref sk]) rfl ?_
            have hl811 : hq775.2.2.2.1 cq775_0 = hq775.2.2.2.1 cq775_0 := congrFun sS810.2.2.2.2.1 cq775_0
            refine gz_call rfl (by decide) rfl (by decide) (by decide) (gcal_of rfl rfl rfl (Nat.le_of_ble_eq_true rfl) (gJ.recv (G := gGG) sS810.1 t779 rfl rfl)) (cw_putTwo _ sS810.1 sk t779 4 ⟨by omega, by omega⟩ cq775_0 ecq775_0 tcq775_0 fq775_0 efq775_0 ⟨by omega, by omega⟩ (eeM (eeB (eeB (eeB (eeB (eeT (eeT (eeB (eeT (eeM (eHt tb (eeB (eeT (eeM (eeM (0, 0, 0, fun _ => 0) 216) 219) 67) 0) 64) 194) 11) 8) hh) ww) 1) 1) 17) 0) 221) (by omega) (by omega) uq809 yq775_0 yq775_1) (fun q812 _ wq812 => ?_)
            obtain ⟨pq812, oq812, hq812⟩ := q812
            obtain ⟨tyq812, xq812, cq812_0, ttq812, fq812_0, ecq812_0, tcq812_0, gq812, efq812_0, afq812_0, bfq812_0, uq812_0, uq812_1, uq812_2, uq812_3, uq812_4, uq812_5, uq812_6, uq812_7, yq812_0, yq812_1⟩ := wq812
            dsimp only at uq812_4 uq812_5 uq812_6 uq812_7
            refine ⟨_, gq812, ?_⟩
            show gz gPP gGG gcn _ _ 200 [some (.ref x), some (.ref dr), some (.int (zi i))] [] hq812 _
            have G813 : gSg [114] [] [56000, 56001, 56002, 56003, 71006, 114999] ty h tyq812 hq812 := gSg.tr (gSg.ss G776 sS810 (by decide)) xq812 (by decide) (by decide) (fun x hx => by cases hx)
            have t814 : tyq812 x = 71 := gSg.typ xq812 sS810.1 t777 rfl
            have t815 : tyq812 dr = 55 := gSg.typ xq812 sS810.1 t778 rfl
            have t816 : tyq812 sk = 56 := gSg.typ xq812 sS810.1 t779 rfl
            have t817 : tyq812 bv = 114 := gSg.typ xq812 sS810.1 t780 rfl
            have hl818 : hq812.2.2.2.1 bv = hq775.2.2.2.1 bv := gSg.len xq812 sS810.1 t780 rfl
            have t819 : tyq812 cq516_0 = 114 := gSg.typ xq812 sS810.1 t782 rfl
            have hl820 : hq812.2.2.2.1 cq516_0 = hq775.2.2.2.1 cq516_0 := gSg.len xq812 sS810.1 t782 rfl
            have t821 : tyq812 cq535_0 = 114 := gSg.typ xq812 sS810.1 t784 rfl
            have hl822 : hq812.2.2.2.1 cq535_0 = hq775.2.2.2.1 cq535_0 := gSg.len xq812 sS810.1 t784 rfl
            have t823 : tyq812 cq556_0 = 114 := gSg.typ xq812 sS810.1 t786 rfl
            have hl824 : hq812.2.2.2.1 cq556_0 = hq775.2.2.2.1 cq556_0 := gSg.len xq812 sS810.1 t786 rfl
            have t825 : tyq812 cq579_0 = 114 := gSg.typ xq812 sS810.1 t788 rfl
            have hl826 : hq812.2.2.2.1 cq579_0 = hq775.2.2.2.1 cq579_0 := gSg.len xq812 sS810.1 t788 rfl
            have t827 : tyq812 cq604_0 = 114 := gSg.typ xq812 sS810.1 t790 rfl
            have hl828 : hq812.2.2.2.1 cq604_0 = hq775.2.2.2.1 cq604_0 := gSg.len xq812 sS810.1 t790 rfl
            have t829 : tyq812 cq631_0 = 114 := gSg.typ xq812 sS810.1 t792 rfl
            have hl830 : hq812.2.2.2.1 cq631_0 = hq775.2.2.2.1 cq631_0 := gSg.len xq812 sS810.1 t792 rfl
            have t831 : tyq812 cq660_0 = 114 := gSg.typ xq812 sS810.1 t794 rfl
            have hl832 : hq812.2.2.2.1 cq660_0 = hq775.2.2.2.1 cq660_0 := gSg.len xq812 sS810.1 t794 rfl
            have t833 : tyq812 cq691_0 = 114 := gSg.typ xq812 sS810.1 t796 rfl
            have hl834 : hq812.2.2.2.1 cq691_0 = hq775.2.2.2.1 cq691_0 := gSg.len xq812 sS810.1 t796 rfl
            have t835 : tyq812 cq724_0 = 114 := gSg.typ xq812 sS810.1 t798 rfl
            have hl836 : hq812.2.2.2.1 cq724_0 = hq775.2.2.2.1 cq724_0 := gSg.len xq812 sS810.1 t798 rfl
            have t837 : tyq812 cq775_0 = 114 := gSg.typ xq812 sS810.1 tcq775_0 rfl
            have hl838 : hq812.2.2.2.1 cq775_0 = hq775.2.2.2.1 cq775_0 := gSg.len xq812 sS810.1 tcq775_0 rfl
            have s839 := gSg.at xq812 sS810.1 t777 rfl (by decide) s800
            have s840 := gSg.at xq812 sS810.1 t778 rfl (by decide) s801
            have s841 := gSg.at xq812 sS810.1 t778 rfl (by decide) s802
            have s842 := gSg.at xq812 sS810.1 t778 rfl (by decide) s803
            have s843 := gSg.at xq812 sS810.1 t778 rfl (by decide) s804
            have s844 := gSg.at xq812 sS810.1 t777 rfl (by decide) s805
            have s845 := gSg.at xq812 sS810.1 t779 rfl (by decide) s806
            have s846 := gSg.at xq812 sS810.1 t779 rfl (by decide) s807
            have pr847 := gRn.gr xq812 sS810.1 rfl (by decide) (by decide) pr808
            have uq848 := gSg.uq xq812 uq809 (by decide)
            have sS849 : gSs rT 1027 tyq812 [56000, 56001, 56002, 56003, 71006, 114999] hq812 hq812 := gSs.rf xq812.1
            refine gz_s 1 (pc' := 201) (L' := [some (.ref x), some (.ref dr), some (.int (zi i))]) (S' := [.ref x]) rfl ?_
            refine gs_gtk rfl (by decide) rfl sS849.1 t814 rfl rfl s839 ?_
            refine gz_s 1 (pc' := 205) (L' := [some (.ref x), some (.ref dr), some (.int (zi i))]) (S' := [.ref x, .ref sk]) rfl ?_
            refine gs_gtk rfl (by decide) rfl sS849.1 t814 rfl rfl s844 ?_
            have hl850 : hq812.2.2.2.1 cq812_0 = hq812.2.2.2.1 cq812_0 := congrFun sS849.2.2.2.2.1 cq812_0
            refine gz_call rfl (by decide) rfl (by decide) (by decide) (gcal_of rfl rfl rfl (Nat.le_of_ble_eq_true rfl) (gJ.recv (G := gGG) sS849.1 t816 rfl rfl)) (cw_putTwo _ sS849.1 sk t816 iv0 ⟨by omega, by omega⟩ cq812_0 ecq812_0 tcq812_0 fq812_0 efq812_0 ⟨by omega, by omega⟩ (eeT (eeM (eeB (eeB (eeB (eeB (eeT (eeT (eeB (eeT (eeM (eHt tb (eeB (eeT (eeM (eeM (0, 0, 0, fun _ => 0) 216) 219) 67) 0) 64) 194) 11) 8) hh) ww) 1) 1) 17) 0) 221) 4) (by omega) (by omega) uq848 yq812_0 yq812_1) (fun q851 _ wq851 => ?_)
            obtain ⟨pq851, oq851, hq851⟩ := q851
            obtain ⟨tyq851, xq851, cq851_0, ttq851, fq851_0, ecq851_0, tcq851_0, gq851, efq851_0, afq851_0, bfq851_0, uq851_0, uq851_1, uq851_2, uq851_3, uq851_4, uq851_5, uq851_6, uq851_7, yq851_0, yq851_1⟩ := wq851
            dsimp only at uq851_4 uq851_5 uq851_6 uq851_7
            refine ⟨_, gq851, ?_⟩
            show gz gPP gGG gcn _ _ 211 [some (.ref x), some (.ref dr), some (.int (zi i))] [] hq851 _
            have G852 : gSg [114] [] [56000, 56001, 56002, 56003, 71006, 114999] ty h tyq851 hq851 := gSg.tr (gSg.ss G813 sS849 (by decide)) xq851 (by decide) (by decide) (fun x hx => by cases hx)
            have t853 : tyq851 x = 71 := gSg.typ xq851 sS849.1 t814 rfl
            have t854 : tyq851 dr = 55 := gSg.typ xq851 sS849.1 t815 rfl
            have t855 : tyq851 sk = 56 := gSg.typ xq851 sS849.1 t816 rfl
            have t856 : tyq851 bv = 114 := gSg.typ xq851 sS849.1 t817 rfl
            have hl857 : hq851.2.2.2.1 bv = hq812.2.2.2.1 bv := gSg.len xq851 sS849.1 t817 rfl
            have t858 : tyq851 cq516_0 = 114 := gSg.typ xq851 sS849.1 t819 rfl
            have hl859 : hq851.2.2.2.1 cq516_0 = hq812.2.2.2.1 cq516_0 := gSg.len xq851 sS849.1 t819 rfl
            have t860 : tyq851 cq535_0 = 114 := gSg.typ xq851 sS849.1 t821 rfl
            have hl861 : hq851.2.2.2.1 cq535_0 = hq812.2.2.2.1 cq535_0 := gSg.len xq851 sS849.1 t821 rfl
            have t862 : tyq851 cq556_0 = 114 := gSg.typ xq851 sS849.1 t823 rfl
            have hl863 : hq851.2.2.2.1 cq556_0 = hq812.2.2.2.1 cq556_0 := gSg.len xq851 sS849.1 t823 rfl
            have t864 : tyq851 cq579_0 = 114 := gSg.typ xq851 sS849.1 t825 rfl
            have hl865 : hq851.2.2.2.1 cq579_0 = hq812.2.2.2.1 cq579_0 := gSg.len xq851 sS849.1 t825 rfl
            have t866 : tyq851 cq604_0 = 114 := gSg.typ xq851 sS849.1 t827 rfl
            have hl867 : hq851.2.2.2.1 cq604_0 = hq812.2.2.2.1 cq604_0 := gSg.len xq851 sS849.1 t827 rfl
            have t868 : tyq851 cq631_0 = 114 := gSg.typ xq851 sS849.1 t829 rfl
            have hl869 : hq851.2.2.2.1 cq631_0 = hq812.2.2.2.1 cq631_0 := gSg.len xq851 sS849.1 t829 rfl
            have t870 : tyq851 cq660_0 = 114 := gSg.typ xq851 sS849.1 t831 rfl
            have hl871 : hq851.2.2.2.1 cq660_0 = hq812.2.2.2.1 cq660_0 := gSg.len xq851 sS849.1 t831 rfl
            have t872 : tyq851 cq691_0 = 114 := gSg.typ xq851 sS849.1 t833 rfl
            have hl873 : hq851.2.2.2.1 cq691_0 = hq812.2.2.2.1 cq691_0 := gSg.len xq851 sS849.1 t833 rfl
            have t874 : tyq851 cq724_0 = 114 := gSg.typ xq851 sS849.1 t835 rfl
            have hl875 : hq851.2.2.2.1 cq724_0 = hq812.2.2.2.1 cq724_0 := gSg.len xq851 sS849.1 t835 rfl
            have t876 : tyq851 cq775_0 = 114 := gSg.typ xq851 sS849.1 t837 rfl
            have hl877 : hq851.2.2.2.1 cq775_0 = hq812.2.2.2.1 cq775_0 := gSg.len xq851 sS849.1 t837 rfl
            have t878 : tyq851 cq812_0 = 114 := gSg.typ xq851 sS849.1 tcq812_0 rfl
            have hl879 : hq851.2.2.2.1 cq812_0 = hq812.2.2.2.1 cq812_0 := gSg.len xq851 sS849.1 tcq812_0 rfl
            have s880 := gSg.at xq851 sS849.1 t814 rfl (by decide) s839
            have s881 := gSg.at xq851 sS849.1 t815 rfl (by decide) s840
            have s882 := gSg.at xq851 sS849.1 t815 rfl (by decide) s841
            have s883 := gSg.at xq851 sS849.1 t815 rfl (by decide) s842
            have s884 := gSg.at xq851 sS849.1 t815 rfl (by decide) s843
            have s885 := gSg.at xq851 sS849.1 t814 rfl (by decide) s844
            have s886 := gSg.at xq851 sS849.1 t816 rfl (by decide) s845
            have s887 := gSg.at xq851 sS849.1 t816 rfl (by decide) s846
            have pr888 := gRn.gr xq851 sS849.1 rfl (by decide) (by decide) pr847
            have uq889 := gSg.uq xq851 uq848 (by decide)
            have sS890 : gSs rT 1027 tyq851 [56000, 56001, 56002, 56003, 71006, 114999] hq851 hq851 := gSs.rf xq851.1
            have hk891 : eHd tb sc hh ww iv0 = eeT (eeT (eeM (eeB (eeB (eeB (eeB (eeT (eeT (eeB (eeT (eeM (eHt tb (eeB (eeT (eeM (eeM (0, 0, 0, fun _ => 0) 216) 219) 67) 0) 64) 194) 11) 8) hh) ww) 1) 1) 17) 0) 221) 4) iv0 := by unfold eHd; dsimp only; rw [if_pos (show 0 < iv0 by omega), if_pos (show 0 < sc by omega)]
            have hk891_1 : (eHd tb sc hh ww iv0).1 = (eeT (eeT (eeM (eeB (eeB (eeB (eeB (eeT (eeT (eeB (eeT (eeM (eHt tb (eeB (eeT (eeM (eeM (0, 0, 0, fun _ => 0) 216) 219) 67) 0) 64) 194) 11) 8) hh) ww) 1) 1) 17) 0) 221) 4) iv0).1 := by rw [hk891]
            have hk891_21 : (eHd tb sc hh ww iv0).2.1 = (eeT (eeT (eeM (eeB (eeB (eeB (eeB (eeT (eeT (eeB (eeT (eeM (eHt tb (eeB (eeT (eeM (eeM (0, 0, 0, fun _ => 0) 216) 219) 67) 0) 64) 194) 11) 8) hh) ww) 1) 1) 17) 0) 221) 4) iv0).2.1 := by rw [hk891]
            have hk891_221 : (eHd tb sc hh ww iv0).2.2.1 = (eeT (eeT (eeM (eeB (eeB (eeB (eeB (eeT (eeT (eeB (eeT (eeM (eHt tb (eeB (eeT (eeM (eeM (0, 0, 0, fun _ => 0) 216) 219) 67) 0) 64) 194) 11) 8) hh) ww) 1) 1) 17) 0) 221) 4) iv0).2.2.1 := by rw [hk891]
            have hsw892 : gSW tyq851 cq851_0 (eHd tb sc hh ww iv0) hq851 := by rw [hk891]; exact yq851_0
            have hok893 : eeOk (eHd tb sc hh ww iv0) := by rw [hk891]; exact yq851_1
            have hoc894 := hok893.cur
            have hl895 : 1024 ≤ hq851.2.2.2.1 bv ∧ hq851.2.2.2.1 bv ≤ 1000000 := gJ.rowl (G := gGG) sS890.1 t856 rfl
            have hl896 : 1024 ≤ hq851.2.2.2.1 cq516_0 ∧ hq851.2.2.2.1 cq516_0 ≤ 1000000 := gJ.rowl (G := gGG) sS890.1 t858 rfl
            have hl897 : 1024 ≤ hq851.2.2.2.1 cq535_0 ∧ hq851.2.2.2.1 cq535_0 ≤ 1000000 := gJ.rowl (G := gGG) sS890.1 t860 rfl
            have hl898 : 1024 ≤ hq851.2.2.2.1 cq556_0 ∧ hq851.2.2.2.1 cq556_0 ≤ 1000000 := gJ.rowl (G := gGG) sS890.1 t862 rfl
            have hl899 : 1024 ≤ hq851.2.2.2.1 cq579_0 ∧ hq851.2.2.2.1 cq579_0 ≤ 1000000 := gJ.rowl (G := gGG) sS890.1 t864 rfl
            have hl900 : 1024 ≤ hq851.2.2.2.1 cq604_0 ∧ hq851.2.2.2.1 cq604_0 ≤ 1000000 := gJ.rowl (G := gGG) sS890.1 t866 rfl
            have hl901 : 1024 ≤ hq851.2.2.2.1 cq631_0 ∧ hq851.2.2.2.1 cq631_0 ≤ 1000000 := gJ.rowl (G := gGG) sS890.1 t868 rfl
            have hl902 : 1024 ≤ hq851.2.2.2.1 cq660_0 ∧ hq851.2.2.2.1 cq660_0 ≤ 1000000 := gJ.rowl (G := gGG) sS890.1 t870 rfl
            have hl903 : 1024 ≤ hq851.2.2.2.1 cq691_0 ∧ hq851.2.2.2.1 cq691_0 ≤ 1000000 := gJ.rowl (G := gGG) sS890.1 t872 rfl
            have hl904 : 1024 ≤ hq851.2.2.2.1 cq724_0 ∧ hq851.2.2.2.1 cq724_0 ≤ 1000000 := gJ.rowl (G := gGG) sS890.1 t874 rfl
            have hl905 : 1024 ≤ hq851.2.2.2.1 cq775_0 ∧ hq851.2.2.2.1 cq775_0 ≤ 1000000 := gJ.rowl (G := gGG) sS890.1 t876 rfl
            have hl906 : 1024 ≤ hq851.2.2.2.1 cq812_0 ∧ hq851.2.2.2.1 cq812_0 ≤ 1000000 := gJ.rowl (G := gGG) sS890.1 t878 rfl
            have hl907 : 1024 ≤ hq851.2.2.2.1 cq851_0 ∧ hq851.2.2.2.1 cq851_0 ≤ 1000000 := gJ.rowl (G := gGG) sS890.1 tcq851_0 rfl
            have G908 : gSg [114] [] [56000, 56001, 56002, 56003, 71006, 114999] ty h tyq851 hq851 := gSg.ss G852 sS890 (by decide)
            exact gz_end (I := .return_) (len := 1) rfl (Or.inl rfl) ⟨tyq851, G908, cq851_0, trivial, fq851_0, fq9_1, fq9_2, iv0, ecq851_0, tcq851_0, rfl, efq851_0, (by omega), (by omega), s886, (by omega), (by omega), s887, (by omega), (by omega), s885, (by omega), (by omega), (by omega), (by omega), (by omega), (by omega), (by omega), (by omega), (by omega), (by dsimp only; omega), (by dsimp only; omega), (by dsimp only; omega), (by dsimp only; omega), hsw892, hok893⟩
      · refine gy_icF rfl (by decide) (by decide) (by omega) (by omega) hc115 ?_
        refine gz_s 1 (pc' := 61) (L' := [some (.ref x), some (.ref dr), some (.int (zi i))]) (S' := [.ref x]) rfl ?_
        refine gs_gtk rfl (by decide) rfl sh113.1 lp108c0 rfl rfl lp108k0 ?_
        refine gz_s 1 (pc' := 65) (L' := [some (.ref x), some (.ref dr), some (.int (zi i))]) (S' := [.ref x, .ref sk]) rfl ?_
        refine gs_gtr rfl (by decide) rfl sh113.1 lp108c0 rfl rfl rfl (fun c909 ec909 tc909 => ?_)
        refine gz_s 1 (pc' := 69) (L' := [some (.ref x), some (.ref dr), some (.int (zi i))]) (S' := [.int (zi i), .ref c909, .ref sk]) rfl ?_
        have hl910 : 64 ≤ h113.2.2.2.1 c909 ∧ h113.2.2.2.1 c909 ≤ 64 := gJ.rowl (G := gGG) sh113.1 tc909 rfl
        refine gs_ald rfl (by decide) sh113.1 tc909 rfl rfl rfl (by decide) (fun _ => rfl) (by omega) (by omega) (fun z911 ez911 az911 bz911 => ?_)
        have hf912 := gRn.at (i := i) (z := z911) lp108k9 tc909 ez911 (by omega) (by omega) (by omega)
        have hl913 : h113.2.2.2.1 bv = h113.2.2.2.1 bv := congrFun sh113.2.2.2.2.1 bv
        refine gz_call rfl (by decide) rfl (by decide) (by decide) (gcal_of rfl rfl rfl (Nat.le_of_ble_eq_true rfl) (gJ.recv (G := gGG) sh113.1 lp108c2 rfl rfl)) (cw_putByte _ sh113.1 sk lp108c2 z911 ⟨by omega, by omega⟩ bv lp108r0 lp108r1 cv lp108k8 ⟨by omega, by omega⟩ (eHt tb (eeB (eeT (eeM (eeM (0, 0, 0, fun _ => 0) 216) 219) 67) 0) (i).toNat) (by omega) (by omega) lp108u lp108k10 lp108k11) (fun q914 _ wq914 => ?_)
        obtain ⟨pq914, oq914, hq914⟩ := q914
        obtain ⟨tyq914, xq914, cq914_0, ttq914, fq914_0, ecq914_0, tcq914_0, gq914, efq914_0, afq914_0, bfq914_0, uq914_0, uq914_1, uq914_2, uq914_3, uq914_4, uq914_5, uq914_6, uq914_7, yq914_0, yq914_1⟩ := wq914
        dsimp only at uq914_4 uq914_5 uq914_6 uq914_7
        refine ⟨_, gq914, ?_⟩
        show gz gPP gGG gcn _ _ 73 [some (.ref x), some (.ref dr), some (.int (zi i))] [] hq914 _
        have G915 : gSg [114] [] [56000, 56001, 56002, 56003, 71006, 114999] ty h tyq914 hq914 := gSg.tr (gSg.ss lp108G sh113 (by decide)) xq914 (by decide) (by decide) (fun x hx => by cases hx)
        have t916 : tyq914 x = 71 := gSg.typ xq914 sh113.1 lp108c0 rfl
        have t917 : tyq914 dr = 55 := gSg.typ xq914 sh113.1 lp108c1 rfl
        have t918 : tyq914 sk = 56 := gSg.typ xq914 sh113.1 lp108c2 rfl
        have t919 : tyq914 bv = 114 := gSg.typ xq914 sh113.1 lp108r1 rfl
        have hl920 : hq914.2.2.2.1 bv = h113.2.2.2.1 bv := gSg.len xq914 sh113.1 lp108r1 rfl
        have t921 : tyq914 c909 = 72 := gSg.typ xq914 sh113.1 tc909 rfl
        have s922 := gSg.at xq914 sh113.1 lp108c0 rfl (by decide) lp108k0
        have s923 := gSg.at xq914 sh113.1 lp108c1 rfl (by decide) lp108k1
        have s924 := gSg.at xq914 sh113.1 lp108c1 rfl (by decide) lp108k2
        have s925 := gSg.at xq914 sh113.1 lp108c1 rfl (by decide) lp108k3
        have s926 := gSg.at xq914 sh113.1 lp108c1 rfl (by decide) lp108k4
        have s927 := gSg.at xq914 sh113.1 lp108c0 rfl (by decide) lp108k5
        have s928 := gSg.at xq914 sh113.1 lp108c2 rfl (by decide) lp108k6
        have s929 := gSg.at xq914 sh113.1 lp108c2 rfl (by decide) lp108k7
        have s930 := gSg.at xq914 sh113.1 lp108c0 rfl (by decide) ec909
        have pr931 := gRn.gr xq914 sh113.1 rfl (by decide) (by decide) lp108k9
        have uq932 := gSg.uq xq914 lp108u (by decide)
        have sS933 : gSs rT 1027 tyq914 [56000, 56001, 56002, 56003, 71006, 114999] hq914 hq914 := gSs.rf xq914.1
        have hk934 : eHt tb (eeB (eeT (eeM (eeM (0, 0, 0, fun _ => 0) 216) 219) 67) 0) (i + 1).toNat = eeB (eHt tb (eeB (eeT (eeM (eeM (0, 0, 0, fun _ => 0) 216) 219) 67) 0) (i).toNat) z911 := by rw [(by omega : (i + 1).toNat = (i).toNat + 1)]; show eeB _ (tb (i).toNat) = _; rw [hf912]
        have hk934_1 : (eHt tb (eeB (eeT (eeM (eeM (0, 0, 0, fun _ => 0) 216) 219) 67) 0) (i + 1).toNat).1 = (eeB (eHt tb (eeB (eeT (eeM (eeM (0, 0, 0, fun _ => 0) 216) 219) 67) 0) (i).toNat) z911).1 := by rw [hk934]
        have hk934_21 : (eHt tb (eeB (eeT (eeM (eeM (0, 0, 0, fun _ => 0) 216) 219) 67) 0) (i + 1).toNat).2.1 = (eeB (eHt tb (eeB (eeT (eeM (eeM (0, 0, 0, fun _ => 0) 216) 219) 67) 0) (i).toNat) z911).2.1 := by rw [hk934]
        have hk934_221 : (eHt tb (eeB (eeT (eeM (eeM (0, 0, 0, fun _ => 0) 216) 219) 67) 0) (i + 1).toNat).2.2.1 = (eeB (eHt tb (eeB (eeT (eeM (eeM (0, 0, 0, fun _ => 0) 216) 219) 67) 0) (i).toNat) z911).2.2.1 := by rw [hk934]
        have hsw935 : gSW tyq914 cq914_0 (eHt tb (eeB (eeT (eeM (eeM (0, 0, 0, fun _ => 0) 216) 219) 67) 0) (i + 1).toNat) hq914 := by rw [hk934]; exact yq914_0
        have hok936 : eeOk (eHt tb (eeB (eeT (eeM (eeM (0, 0, 0, fun _ => 0) 216) 219) 67) 0) (i + 1).toNat) := by rw [hk934]; exact yq914_1
        have hoc937 := hok936.cur
        refine gy_s 2 (pc' := 54) (L' := [some (.ref x), some (.ref dr), some (.int ((zi i) + zi 1))]) (S' := []) (L2 := [some (.ref x), some (.ref dr), some (.int (zi (i + 1)))]) (S2 := []) rfl (by simp only [zi_add, zi_sub, zi_mul, zi_neg, zi_and1, zi_and7, zi_and15, zi_and31, zi_and255]) (by simp only [zi_add, zi_sub, zi_mul, zi_neg, zi_and1, zi_and7, zi_and15, zi_and31, zi_and255]) ?_
        have hl938 : 1024 ≤ hq914.2.2.2.1 bv ∧ hq914.2.2.2.1 bv ≤ 1000000 := gJ.rowl (G := gGG) sS933.1 t919 rfl
        have hl939 : 1024 ≤ hq914.2.2.2.1 cq914_0 ∧ hq914.2.2.2.1 cq914_0 ≤ 1000000 := gJ.rowl (G := gGG) sS933.1 tcq914_0 rfl
        have G940 : gSg [114] [] [56000, 56001, 56002, 56003, 71006, 114999] ty h tyq914 hq914 := gSg.ss G915 sS933 (by decide)
        exact gz_wk (ihlp108 tyq914 hq914 cq914_0 (i + 1) fq914_0 (gms lp108m (by omega) (by omega)) G940 uq932 t916 t917 t918 ecq914_0 tcq914_0 ⟨by omega, by omega⟩ ⟨by omega, by omega⟩ (by omega) (by omega) (by omega) (by omega) (by omega) (by omega) (by omega) (by omega) s922 s923 s924 s925 s926 s927 s928 s929 efq914_0 pr931 hsw935 hok936) (gLw.s (gLw.s (gLw.s gLw.z)))
  have he1 : (eHt tb (eeB (eeT (eeM (eeM (0, 0, 0, fun _ => 0) 216) 219) 67) 0) (0 : Int).toNat).2.1 = 0 := rfl
  have he2 : (eHt tb (eeB (eeT (eeM (eeM (0, 0, 0, fun _ => 0) 216) 219) 67) 0) (0 : Int).toNat).2.2.1 = 0 := rfl
  have hl941 : 1024 ≤ hq84.2.2.2.1 bt ∧ hq84.2.2.2.1 bt ≤ 1000000 := gJ.rowl (G := gGG) sS107.1 t89 rfl
  have hl942 : 1024 ≤ hq84.2.2.2.1 cq21_0 ∧ hq84.2.2.2.1 cq21_0 ≤ 1000000 := gJ.rowl (G := gGG) sS107.1 t91 rfl
  have hl943 : 1024 ≤ hq84.2.2.2.1 cq40_0 ∧ hq84.2.2.2.1 cq40_0 ≤ 1000000 := gJ.rowl (G := gGG) sS107.1 t93 rfl
  have hl944 : 1024 ≤ hq84.2.2.2.1 cq61_0 ∧ hq84.2.2.2.1 cq61_0 ≤ 1000000 := gJ.rowl (G := gGG) sS107.1 t95 rfl
  have hl945 : 1024 ≤ hq84.2.2.2.1 cq84_0 ∧ hq84.2.2.2.1 cq84_0 ≤ 1000000 := gJ.rowl (G := gGG) sS107.1 tcq84_0 rfl
  have G946 : gSg [114] [] [56000, 56001, 56002, 56003, 71006, 114999] ty h tyq84 hq84 := gSg.ss G85 sS107 (by decide)
  exact gz_wk (lp108 _ tyq84 hq84 cq84_0 0 fq84_0 (Nat.lt_succ_self _) G946 uq106 t86 t87 t88 ecq84_0 tcq84_0 ⟨by omega, by omega⟩ ⟨by omega, by omega⟩ (by omega) (by omega) (by omega) (by omega) (by omega) (by omega) (by omega) (by omega) s97 s98 s99 s100 s101 s102 s103 s104 efq84_0 pr105 hsw110 hok111) (gLw.s (gLw.s (gLw.s gLw.z)))
