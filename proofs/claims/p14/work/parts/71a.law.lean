/-! ===== the law's state ===== -/
/-- the script -/
def gScr (ty : Nat → Nat) (Ln : Int) (sc : Nat → Int) (h : gH) : Prop := ty 2 = 200 ∧ 1027 ≤ h.1 ∧ h.2.2.1 2 = some (.inl 0) ∧ (h.2.2.2.1 2 : Int) = Ln ∧ (0 ≤ Ln ∧ Ln ≤ 2048) ∧ (∀ k : Nat, (k : Int) < Ln → h.2.2.2.2 2 k = .int (zi (sc k))) ∧ ∀ k, -2147483648 ≤ sc k ∧ sc k ≤ 2147483647
theorem gScr.fr {ty : Nat → Nat} {Ln : Int} {sc : Nat → Int} {h h' : gH} {l : List Nat} (g : gFr rT ty l h h') (hl : ∀ x ∈ l, x < 200000) (p : gScr ty Ln sc h) : gScr ty Ln sc h' := by
  obtain ⟨p1, p2, p3, p4, p5, p6, p7⟩ := p
  obtain ⟨g1, g2, g3, g4, g5⟩ := g
  refine ⟨p1, by omega, by rw [g3]; exact p3, by rw [g4]; exact p4, p5, fun k hk => ?_, p7⟩
  rw [g5 2 k (fun w => by have := hl _ w; rw [p1] at this; have e : gpl rT 200 k = 1000 * 200 + k := rfl; omega)]
  exact p6 k hk
theorem gScr.gr {nk X l : List Nat} {ty ty2 : Nat → Nat} {Ln : Int} {sc : Nat → Int} {h h2 : gH} (g : gSg nk X l ty h ty2 h2) (hl : ∀ x ∈ l, x < 200000) (hX : ∀ x ∈ X, 3 ≤ x) (p : gScr ty Ln sc h) : gScr ty2 Ln sc h2 := by
  obtain ⟨p1, p2, p3, p4, p5, p6, p7⟩ := p
  have hx : ¬ (2 : Nat) ∈ X := fun w => by have := hX _ w; omega
  have r := g.raw (c := 2) (by omega) hx
  refine ⟨r.1.trans p1, by have := g.2.1; omega, r.2.2.1.trans p3, by rw [r.2.2.2]; exact p4, p5, fun k hk => ?_, p7⟩
  exact g.rawat (by omega) hx p1 hl (p6 k hk)
section GLAW
variable {P : Nat → Option gMt} {G : gG} {cn : Nat → Option Nat} {d : Nat} {t : gMt} {pc : Nat} {L : gL} {S : List Value} {h : gH} {F : gR → gL → Prop} {ty : Nat → Nat} {Ln : Int} {sc : Nat → Int}
theorem gs_st2 {i : Int} (hlk : glk pc (gmC t) = some (.iaload, 1)) (hx : ¬ pc ∈ gmE t) (h9 : G.1[0]? = some .int) (p : gScr ty Ln sc h) (hi0 : 0 ≤ i) (hi1 : i < Ln) (kk : (-2147483648 ≤ sc i.toNat ∧ sc i.toNat ≤ 2147483647) → gz P G cn d t (pc + 1) L (.int (zi (sc i.toNat)) :: S) h F) : gz P G cn d t pc L (.int (zi i) :: .ref 2 :: S) h F := by
  obtain ⟨p1, p2, p3, p4, p5, p6, p7⟩ := p
  exact gy_iald hlk hx (by omega) p3 h9 (by omega) hi0 (by omega) (p6 i.toNat (by omega)) (kk (p7 _))
theorem gs_sl2 (hlk : glk pc (gmC t) = some (.arraylength, 1)) (hx : ¬ pc ∈ gmE t) (h9 : G.1[0]? = some .int) (p : gScr ty Ln sc h) (kk : gz P G cn d t (pc + 1) L (.int (zi Ln) :: S) h F) : gz P G cn d t pc L (.ref 2 :: S) h F := by
  obtain ⟨p1, p2, p3, p4, p5, p6, p7⟩ := p
  refine gz_len hlk hx (by omega) p3 h9 ?_
  rw [zi_nI, p4]
  exact kk
end GLAW
/-- the reference: its picture, its scans that are told, its canvas, its interval -/
def gIm (ty : Nat → Nat) (m : Nat) (iv : Int) (S : gSS) (h : gH) : Prop := ∃ ip w hh wd hg bs n0 cw ch i0 wr : Int, ty m = 1 ∧ (h.2.2.2.2 m 16 = .int (zi ip) ∧ 0 ≤ ip ∧ ip ≤ 1) ∧ (h.2.2.2.2 m 18 = .int (zi w) ∧ 0 ≤ w ∧ w ≤ 64) ∧ (h.2.2.2.2 m 19 = .int (zi hh) ∧ 0 ≤ hh ∧ hh ≤ 64) ∧ (h.2.2.2.2 m 21 = .int (zi wd) ∧ 0 ≤ wd ∧ wd ≤ 2) ∧ (h.2.2.2.2 m 22 = .int (zi hg) ∧ 0 ≤ hg ∧ hg ≤ 2) ∧ (h.2.2.2.2 m 20 = .int (zi bs) ∧ 0 ≤ bs ∧ bs ≤ 3) ∧ gPi ty ip w hh wd hg bs h ∧ (h.2.2.2.2 m 53 = .int (zi n0) ∧ 0 ≤ n0 ∧ n0 ≤ 10) ∧ gTs ty n0 h ∧ (h.2.2.2.2 m 50 = .int (zi cw) ∧ 0 ≤ cw ∧ cw ≤ 32) ∧ (h.2.2.2.2 m 51 = .int (zi ch) ∧ 0 ≤ ch ∧ ch ≤ 32) ∧ (cw = 0 ↔ ch = 0) ∧ (h.2.2.2.2 m 52 = .int (zi i0) ∧ 0 ≤ i0 ∧ i0 ≤ 100) ∧ (h.2.2.2.2 m 59 = .int (zi wr) ∧ 0 ≤ wr ∧ wr ≤ 60000) ∧ iv = 64 * cw + n0 + 4096 * ch + 262144 * i0 ∧ gMw ty S h ∧ gRn 64 ty 10 (fun i9 => eZz ((i9 : Nat) : Int)) h ∧ (gSO ty S.2 h ∧ wr = S.2.1) ∧ eTz n0 S
theorem gPic.gr {nk X l : List Nat} {ty ty2 : Nat → Nat} {w hh wd hg bs : Int} {h h2 : gH} (g : gSg nk X l ty h ty2 h2) (hJ : gJ rT 1027 ty h) (hn : ∀ x ∈ nk, 43 ≤ x) (hl : ∀ x ∈ l, 50000 ≤ x) (p : gPic ty w hh wd hg bs h) : gPic ty2 w hh wd hg bs h2 := by
  refine ⟨p.1, fun b h0 h1 => ?_⟩
  obtain ⟨hb, vb, C, R, oc, orr, f, e1, e2, e3, e4, e5, e6, e7, e8, k⟩ := p.2 b h0 h1
  have a1 : ∀ q : Nat, q < 43 → ¬ q ∈ nk := fun q hq w => by have := hn _ w; omega
  have a2 : ∀ q : Nat, q < 43 → ¬ (1000 * q + 999) ∈ l := fun q hq w => by have := hl _ w; omega
  exact ⟨hb, vb, C, R, oc, orr, f, gEl.gr g hJ rfl (a1 _ (by decide)) (a2 _ (by decide)) (fun _ => rfl) e1, gEl.gr g hJ rfl (a1 _ (by decide)) (a2 _ (by decide)) (fun _ => rfl) e2, gEl.gr g hJ rfl (a1 _ (by decide)) (a2 _ (by decide)) (fun _ => rfl) e3, gEl.gr g hJ rfl (a1 _ (by decide)) (a2 _ (by decide)) (fun _ => rfl) e4, gEl.gr g hJ rfl (a1 _ (by decide)) (a2 _ (by decide)) (fun _ => rfl) e5, gEl.gr g hJ rfl (a1 _ (by decide)) (a2 _ (by decide)) (fun _ => rfl) e6, gEl.gr g hJ rfl (a1 _ (by decide)) (a2 _ (by decide)) (fun _ => rfl) e7, gEl.gr g hJ rfl (a1 _ (by decide)) (a2 _ (by decide)) (fun _ => rfl) e8, k⟩
theorem gTs.gr {nk X l : List Nat} {ty ty2 : Nat → Nat} {n : Int} {h h2 : gH} (g : gSg nk X l ty h ty2 h2) (hJ : gJ rT 1027 ty h) (hn : ∀ x ∈ nk, 43 ≤ x) (hl : ∀ x ∈ l, 50000 ≤ x) (s : gTs ty n h) : gTs ty2 n h2 := by
  obtain ⟨f, t, c, x1, x2, x3, x4⟩ := s
  have a1 : ∀ q : Nat, q < 43 → ¬ q ∈ nk := fun q hq w => by have := hn _ w; omega
  have a2 : ∀ q : Nat, q < 43 → ¬ (1000 * q + 999) ∈ l := fun q hq w => by have := hl _ w; omega
  exact ⟨f, t, c, x1.gr g hJ rfl (a1 _ (by decide)) (a2 _ (by decide)), x2.gr g hJ rfl (a1 _ (by decide)) (a2 _ (by decide)), x3.gr g hJ rfl (a1 _ (by decide)) (a2 _ (by decide)), x4⟩
theorem gSO.gr {nk X l : List Nat} {ty ty2 : Nat → Nat} {s : gWt} {h h2 : gH} (g : gSg nk X l ty h ty2 h2) (hJ : gJ rT 1027 ty h) (hn : ¬ 32 ∈ nk) (hl : ¬ 32999 ∈ l) (p : gSO ty s h) : gSO ty2 s h2 := ⟨p.1, p.2.1, fun j hj => ⟨(p.2.2 j hj).1, fun c hc => g.at (k := j) hJ (g.old hc hn) (r := rg32) rfl (by rw [p.1]; exact hl) ((p.2.2 j hj).2 c (g.old hc hn))⟩⟩
/-- what the landed object does leaves the reference as it is -/
theorem gIm.gr {nk X l : List Nat} {ty ty2 : Nat → Nat} {m : Nat} {iv : Int} {S : gSS} {h h2 : gH} (g : gSg nk X l ty h ty2 h2) (hJ : gJ rT 1027 ty h) (hn : ∀ x ∈ nk, 43 ≤ x) (hl : ∀ x ∈ l, 50000 ≤ x) (p : gIm ty m iv S h) : gIm ty2 m iv S h2 := by
  obtain ⟨ip, w, hh, wd, hg, bs, n0, cw, ch, i0, wr, t, ⟨e1, r1⟩, ⟨e2, r2⟩, ⟨e3, r3⟩, ⟨e4, r4⟩, ⟨e5, r5⟩, ⟨e6, r6⟩, hpi, ⟨e7, r7⟩, hts, ⟨e8, r8⟩, ⟨e9, r9⟩, hcc, ⟨e10, r10⟩, ⟨e11, r11⟩, hcd, hmw, hzz, ⟨hso, hwr⟩, htz⟩ := p
  have a : ∀ k : Nat, k < 999 → ¬ gpl rT 1 k ∈ l := fun k hk w => by have := hl _ w; have e : gpl rT 1 k = 1000 * 1 + k := rfl; omega
  exact ⟨ip, w, hh, wd, hg, bs, n0, cw, ch, i0, wr, g.typ hJ t rfl, ⟨g.at hJ t rfl (a _ (by decide)) e1, r1⟩, ⟨g.at hJ t rfl (a _ (by decide)) e2, r2⟩, ⟨g.at hJ t rfl (a _ (by decide)) e3, r3⟩, ⟨g.at hJ t rfl (a _ (by decide)) e4, r4⟩, ⟨g.at hJ t rfl (a _ (by decide)) e5, r5⟩, ⟨g.at hJ t rfl (a _ (by decide)) e6, r6⟩, fun e => (hpi e).gr g hJ hn hl, ⟨g.at hJ t rfl (a _ (by decide)) e7, r7⟩, hts.gr g hJ hn hl, ⟨g.at hJ t rfl (a _ (by decide)) e8, r8⟩, ⟨g.at hJ t rfl (a _ (by decide)) e9, r9⟩, hcc, ⟨g.at hJ t rfl (a _ (by decide)) e10, r10⟩, ⟨g.at hJ t rfl (a _ (by decide)) e11, r11⟩, hcd, gMw.gr g hJ (fun x hx w => (by decide : ∀ x ∈ ([8, 26, 27, 28, 29, 30, 31] : List Nat), ¬ 43 ≤ x) x hx (hn x w)) (fun x hx w => (by decide : ∀ x ∈ ([8999, 26999, 27999, 28999, 29999, 30999, 31999] : List Nat), ¬ 50000 ≤ x) x hx (hl x w)) hmw, gRn.gr g hJ rfl (fun w => absurd (hn _ w) (by decide)) (fun w => absurd (hl _ w) (by decide)) hzz, ⟨gSO.gr g hJ (fun w => absurd (hn _ w) (by decide)) (fun w => absurd (hl _ w) (by decide)) hso, hwr⟩, htz⟩
/-- what the reference does leaves the landed object as it is -/
theorem gIx.fr {l : List Nat} {ty : Nat → Nat} {x : Nat} {ld lb iv : Int} {S : gSS} {h h' : gH} (g : gFr rT ty l h h') (hl : ∀ y ∈ l, y < 50000) (p : gIx ty x ld lb iv S h) : gIx ty x ld lb iv S h' := by
  obtain ⟨pic, b0, b1, b2, dr, sk, bt, n0, c0, i0, dw, dh, ⟨t0, t1, t2, t3⟩, ⟨e1, e2, e3, e4⟩, hpc, htc, ⟨e5, r5⟩, ⟨e6, r6⟩, ⟨e7, r7⟩, ⟨l1, l2⟩, hrr, hrw, ⟨e8, r8⟩, ⟨e9, r9⟩, hwh, hcd, hxr, ⟨hsw, hc0⟩, htz⟩ := p
  have a : ∀ y : Nat, 50000 ≤ y → ¬ y ∈ l := fun y hy w => by have := hl _ w; omega
  have el : h'.2.2.2.1 bt = h.2.2.2.1 bt := congrFun g.2.2.2.1 bt
  refine ⟨pic, b0, b1, b2, dr, sk, bt, n0, c0, i0, dw, dh, ⟨t0, t1, t2, t3⟩, ⟨(g.2.2.2.2 x 2 (by rw [t0]; exact a _ (by decide))).trans e1, (g.2.2.2.2 x 3 (by rw [t0]; exact a _ (by decide))).trans e2, (g.2.2.2.2 x 4 (by rw [t0]; exact a _ (by decide))).trans e3, (g.2.2.2.2 sk 0 (by rw [t2]; exact a _ (by decide))).trans e4⟩, hpc.fr g (fun y hy => a y (?_)), htc.fr g (fun y hy => a y (?_)), ⟨(g.2.2.2.2 dr 8 (by rw [t1]; exact a _ (by decide))).trans e5, r5⟩, ⟨(g.2.2.2.2 dr 3 (by rw [t1]; exact a _ (by decide))).trans e6, r6⟩, ⟨(g.2.2.2.2 sk 1 (by rw [t2]; exact a _ (by decide))).trans e7, r7⟩, ⟨by rw [el]; exact l1, by rw [el]; exact l2⟩, hrr.fr g (fun y hy => a y (?_)), hrw.fr g (fun y hy => a y (?_)), ⟨(g.2.2.2.2 dr 1 (by rw [t1]; exact a _ (by decide))).trans e8, r8⟩, ⟨(g.2.2.2.2 dr 2 (by rw [t1]; exact a _ (by decide))).trans e9, r9⟩, hwh, hcd, hxr.fr g (fun y hy => a y (?_)), ⟨hsw.fr g (fun y hy => a y (?_)), hc0⟩, htz⟩
  · exact (by decide : ∀ y ∈ gPCp, 50000 ≤ y) y hy
  · exact (by decide : ∀ y ∈ ([60999, 61999, 64999] : List Nat), 50000 ≤ y) y hy
  · exact (by decide : ∀ y ∈ gRrp, 50000 ≤ y) y hy
  · exact (by decide : ∀ y ∈ gRwp, 50000 ≤ y) y hy
  · exact (by decide : ∀ y ∈ ([53999, 59999, 60999, 61999, 62999, 63999, 64999] : List Nat), 50000 ≤ y) y hy
  · exact (by decide : ∀ y ∈ ([114999] : List Nat), 50000 ≤ y) y hy
def gIxp : List Nat := gPCp ++ [53999, 59999, 60999, 61999, 62999, 63999, 64999, 114999, 55008, 55003, 55001, 55002, 56000, 56001, 50002, 50003, 50004, 50005, 50006]
theorem gRow.cg {ty : Nat → Nat} {q : Nat} {f : Nat → Int} {h h' : gH} (H : ∀ c k, ty c = q → h'.2.2.2.2 c k = h.2.2.2.2 c k) (p : gRow ty q f h) : gRow ty q f h' := ⟨p.1, fun c hc i hi => by
  rw [H c i hc]
  exact p.2 c hc i hi⟩
theorem gIx.cg {ty : Nat → Nat} {x : Nat} {ld lb iv : Int} {S : gSS} {h h' : gH} (H : ∀ c k, gpl rT (ty c) k ∈ gIxp → h'.2.2.2.2 c k = h.2.2.2.2 c k) (Hl : ∀ c r, rT (ty c) = some r → h'.2.2.2.1 c = h.2.2.2.1 c) (p : gIx ty x ld lb iv S h) : gIx ty x ld lb iv S h' := by
  obtain ⟨pic, b0, b1, b2, dr, sk, bt, n0, c0, i0, dw, dh, ⟨t0, t1, t2, t3⟩, ⟨e1, e2, e3, e4⟩, hpc, ⟨f, t, c, x1, x2, x3, x4⟩, ⟨e5, r5⟩, ⟨e6, r6⟩, ⟨e7, r7⟩, ⟨l1, l2⟩, hrr, hrw, ⟨e8, r8⟩, ⟨e9, r9⟩, hwh, hcd, hxr, ⟨hsw, hc0⟩, htz⟩ := p
  have el : h'.2.2.2.1 bt = h.2.2.2.1 bt := Hl bt rg114 (by rw [t3]; rfl)
  have k0 : ∀ y ∈ gPCp, y ∈ gIxp := fun y hy => List.mem_append.mpr (Or.inl hy)
  exact ⟨pic, b0, b1, b2, dr, sk, bt, n0, c0, i0, dw, dh, ⟨t0, t1, t2, t3⟩, ⟨(H _ _ (by rw [t0]; decide)).trans e1, (H _ _ (by rw [t0]; decide)).trans e2, (H _ _ (by rw [t0]; decide)).trans e3, (H _ _ (by rw [t2]; decide)).trans e4⟩, hpc.cg (fun c k hk => H c k (k0 _ hk)) Hl,
    ⟨f, t, c, x1.cg (fun c k hc => H c k (by rw [hc, x1.1]; decide)), x2.cg (fun c k hc => H c k (by rw [hc, x2.1]; decide)), x3.cg (fun c k hc => H c k (by rw [hc, x3.1]; decide)), x4⟩, ⟨(H _ _ (by rw [t1]; decide)).trans e5, r5⟩, ⟨(H _ _ (by rw [t1]; decide)).trans e6, r6⟩, ⟨(H _ _ (by rw [t2]; decide)).trans e7, r7⟩, ⟨by rw [el]; exact l1, by rw [el]; exact l2⟩, hrr.cg (H _ _ (by rw [t0]; decide)), hrw.cg (H _ _ (by rw [t0]; decide)), ⟨(H _ _ (by rw [t1]; decide)).trans e8, r8⟩, ⟨(H _ _ (by rw [t1]; decide)).trans e9, r9⟩, hwh, hcd, hxr.hc (fun c k hk => H c k ((by decide : ∀ y ∈ ([53999, 59999, 60999, 61999, 62999, 63999, 64999] : List Nat), y ∈ gIxp) _ hk)), ⟨hsw.hc (fun k => H bt k (by rw [t3, show gpl rT 114 k = 114999 from rfl]; decide)), hc0⟩, htz⟩
theorem gIx.pa {ty : Nat → Nat} {x c q2 : Nat} {ld lb iv : Int} {S : gSS} {Q : Nat → Prop} {h h' : gH} (f : ∀ x j, ¬ (x = c ∧ Q j) → h'.2.2.2.2 x j = h.2.2.2.2 x j) (e : h'.2.2.2.1 = h.2.2.2.1) (ht : ty c = q2) (hq : ∀ j, ¬ gpl rT q2 j ∈ gIxp) (p : gIx ty x ld lb iv S h) : gIx ty x ld lb iv S h' := p.cg (fun b j hj => f b j (fun w => hq j (by rw [← ht, ← w.1]; exact hj))) (fun b _ _ => congrFun e b)
theorem gv_l {v : Value} {a b : Int} (e1 : v = .long (zl a)) (e2 : v = .long (zl b)) (ha : -9223372036854775808 ≤ a ∧ a < 9223372036854775808) (hb : -9223372036854775808 ≤ b ∧ b < 9223372036854775808) : a = b := (zl_inj ha hb).mp (Value.long.inj (e1.symm.trans e2))
