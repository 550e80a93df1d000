/-! PREDICTIONS, in numbers -/
def fBt (bc : Int32) (σ : sT) : Int32 × sT := if (fBoot (upd σ 6 bc)).1 = -4 then fBoot (upd (fBoot (upd σ 6 bc)).2 6 (-1)) else fBoot (upd σ 6 bc)
def fAft (v : Int32) (thr : Bool) (c bc : Int32) (σ : sT) : Int32 × sT := if (fUpd v thr (upd σ 6 c)).1 = -4 then fBt bc (fUpd v thr (upd σ 6 c)).2 else (-2, (fUpd v thr (upd σ 6 c)).2)
theorem bt_y {bc : Int32} {σ : sT} (h : (fBoot (upd σ 6 bc)).1 = -4) : fBt bc σ = fBoot (upd (fBoot (upd σ 6 bc)).2 6 (-1)) := if_pos h
theorem bt_n {bc : Int32} {σ : sT} (h : ¬ (fBoot (upd σ 6 bc)).1 = -4) : fBt bc σ = fBoot (upd σ 6 bc) := if_neg h
theorem aft_y {v c bc : Int32} {thr : Bool} {σ : sT} (h : (fUpd v thr (upd σ 6 c)).1 = -4) : fAft v thr c bc σ = fBt bc (fUpd v thr (upd σ 6 c)).2 := if_pos h
theorem aft_n {v c bc : Int32} {thr : Bool} {σ : sT} (h : ¬ (fUpd v thr (upd σ 6 c)).1 = -4) : fAft v thr c bc σ = (-2, (fUpd v thr (upd σ 6 c)).2) := if_neg h
theorem bt_c {bc : Int32} {σ : sT} (h : Inv σ) (hb : (-1 : Int) ≤ bc.toInt) : (fBt bc σ).1 = -1 ∨ (fBt bc σ).1 = 0 ∨ (fBt bc σ).1 = 1 := by
  by_cases e : (fBoot (upd σ 6 bc)).1 = -4
  · rw [bt_y e]
    exact (boot_c (h.p6 hb).boot.pm).elim (fun q => absurd q (boot_4 (h.p6 hb).boot.pm pwB_m)) id
  · rw [bt_n e]
    exact (boot_c (h.p6 hb)).elim (fun q => absurd q e) id
theorem bt_m {σ : sT} (h : Inv σ) : fBt (-1) σ = fBoot (upd σ 6 (-1)) := bt_n (boot_4 h.pm pwB_m)
theorem aft_full {v bc : Int32} {thr : Bool} {σ : sT} {c : Nat} (h : Inv σ) (he : errU v σ = 0) (hc : 93 ≤ c) (hk : c < 2 ^ 31) : (fAft v thr (nI c) bc σ).1 = -2 := by
  have hI := h.pn hk
  have he2 : errU v (upd σ 6 (nI c)) = 0 := errU_6.trans he
  rcases upd_o (thr := thr) hI he2 with ⟨_, q⟩ | ⟨_, d, _, hd, e, _⟩
  · exact absurd (q.symm.trans (upd_pw hI he2 (pwB_n hc hk))) (by decide)
  · rw [aft_n (by rw [e]; exact nI_n4 (by omega))]
theorem aft_c {v bc : Int32} {thr : Bool} {σ : sT} {c : Int32} (h : Inv σ) (hc : (-1 : Int) ≤ c.toInt) (hb : (-1 : Int) ≤ bc.toInt) : ((fAft v thr c bc σ).1 = -2 ∧ ¬ (fUpd v thr (upd σ 6 c)).1 = -4) ∨ ((fUpd v thr (upd σ 6 c)).1 = -4 ∧ ((fAft v thr c bc σ).1 = -1 ∨ (fAft v thr c bc σ).1 = 0 ∨ (fAft v thr c bc σ).1 = 1)) := by
  by_cases e : (fUpd v thr (upd σ 6 c)).1 = -4
  · rw [aft_y e]
    exact Or.inr ⟨e, bt_c (h.p6 hc).upda hb⟩
  · rw [aft_n e]
    exact Or.inl ⟨rfl, e⟩
theorem m1_i : (-1 : Int) ≤ (-1 : Int32).toInt := by decide
theorem n_i {k : Nat} (h : k < 2 ^ 31) : (-1 : Int) ≤ (nI k).toInt := by rw [nI_toInt h]; omega
theorem in_i {c : Int32} {b : Nat} (h : inI c 0 (nI b) = true) : (-1 : Int) ≤ c.toInt := by
  simp only [inI, Bool.and_eq_true, decide_eq_true_eq] at h
  have := Int32.le_iff_toInt_le.mp h.1
  have e : (0 : Int32).toInt = 0 := by decide
  omega
def a_bop (σ : sT) : Int32 := (fBoot (upd σ 6 (-1))).2 9 - σ 9
def cSac (v c : Int32) : Int32 := if inI v 1 255 = true ∧ inI c 0 1000 = true then 0 else 1
def cTwo (v c d : Int32) : Int32 := if inI v 1 255 = true ∧ inI c 0 1000 = true ∧ inI d 0 1000 = true then 0 else 1
def cTac (v c w : Int32) : Int32 := if inI v 1 255 = true ∧ inI c 0 1000 = true ∧ inI w 0 4 = true then 0 else 1
def a_sac (v c bc : Int32) (σ : sT) : Int32 := if errU v σ = 0 then (fAft v false c bc σ).1 else errU v σ
def a_tac (v c w : Int32) (σ : sT) : Int32 := if errU v σ = 0 then (if (fUpd v false (upd σ 6 c)).1 = -4 then told (fAft v false c (-1) σ).2 (tn w) else -102) else errU v σ - 100
-- the cut from which nothing is safe
def fuA (v : Int32) (thr : Bool) (σ : sT) (c : Nat) : Int32 := (fAft v thr (nI c) (-1) σ).1
def fuS (v : Int32) (thr : Bool) (σ : sT) : Nat → Nat → Int32
  | 0, _ => -1
  | t + 1, c => if fuA v thr σ c = -1 then nI c else if fuA v thr σ c = -2 then -1 else fuS v thr σ t (c + 1)
def a_fu (v : Int32) (thr : Bool) (σ : sT) : Int32 := if errU v σ = 0 then fuS v thr σ (1001 - 0) 0 else errU v σ - 100
theorem fuS_s {v : Int32} {thr : Bool} {σ : sT} {c : Nat} (h : c < 1001) : fuS v thr σ (1001 - c) c = if fuA v thr σ c = -1 then nI c else if fuA v thr σ c = -2 then -1 else fuS v thr σ (1001 - (c + 1)) (c + 1) := by
  rw [show 1001 - c = (1001 - (c + 1)) + 1 by omega]
  rfl
theorem fuS_h {v : Int32} {thr : Bool} {σ : sT} {c : Nat} (h : c < 1001) (e : fuA v thr σ c = -1) : fuS v thr σ (1001 - c) c = nI c := (fuS_s h).trans (if_pos e)
theorem fuS_e {v : Int32} {thr : Bool} {σ : sT} {c : Nat} (h : c < 1001) (e : fuA v thr σ c = -2) : fuS v thr σ (1001 - c) c = -1 := (fuS_s h).trans ((if_neg (by rw [e]; decide)).trans (if_pos e))
theorem fuS_g {v : Int32} {thr : Bool} {σ : sT} {c : Nat} (h : c < 1001) (e : ¬ fuA v thr σ c = -1) (e2 : ¬ fuA v thr σ c = -2) : fuS v thr σ (1001 - c) c = fuS v thr σ (1001 - (c + 1)) (c + 1) := (fuS_s h).trans ((if_neg e).trans (if_neg e2))
theorem fuA_lt {v : Int32} {thr : Bool} {σ : sT} {c : Nat} (h : Inv σ) (he : errU v σ = 0) (hc : c < 1001) (e2 : ¬ fuA v thr σ c = -2) : c < 93 := by
  rcases Nat.lt_or_ge c 93 with q | q
  · exact q
  · exact absurd (aft_full h he q (by omega)) e2
def cnS (v : Int32) (σ : sT) : Nat → Nat → Int32 → Int32
  | 0, _, x => x
  | t + 1, c, x => if fuA v false σ c = -2 then x else cnS v σ t (c + 1) (if fuA v false σ c = 1 - σ 8 then x + 1 else x)
def a_cn (v : Int32) (σ : sT) : Int32 := if errU v σ = 0 then cnS v σ (1001 - 0) 0 0 else errU v σ
theorem cnS_s {v x : Int32} {σ : sT} {c : Nat} (h : c < 1001) : cnS v σ (1001 - c) c x = if fuA v false σ c = -2 then x else cnS v σ (1001 - (c + 1)) (c + 1) (if fuA v false σ c = 1 - σ 8 then x + 1 else x) := by
  rw [show 1001 - c = (1001 - (c + 1)) + 1 by omega]
  rfl
theorem cnS_e {v x : Int32} {σ : sT} {c : Nat} (h : c < 1001) (e : fuA v false σ c = -2) : cnS v σ (1001 - c) c x = x := (cnS_s h).trans (if_pos e)
theorem cnS_g {v x y : Int32} {σ : sT} {c : Nat} (h : c < 1001) (e : ¬ fuA v false σ c = -2) (hy : y = if fuA v false σ c = 1 - σ 8 then x + 1 else x) : cnS v σ (1001 - c) c x = cnS v σ (1001 - (c + 1)) (c + 1) y := by subst hy; exact (cnS_s h).trans (if_neg e)
def loR (v : Int32) (σ : sT) (c r : Nat) : Nat := if fuA v false σ c = σ 8 then r + 1 else 0
def loS (v : Int32) (σ : sT) : Nat → Nat → Nat → Nat → Nat
  | 0, _, _, m => m
  | t + 1, c, r, m => if fuA v false σ c = -2 then m else loS v σ t (c + 1) (loR v σ c r) (max m (loR v σ c r))
def a_lo (v : Int32) (σ : sT) : Int32 := if errU v σ = 0 then nI (loS v σ (1001 - 0) 0 0 0) else errU v σ
theorem loS_s {v : Int32} {σ : sT} {c r m : Nat} (h : c < 1001) : loS v σ (1001 - c) c r m = if fuA v false σ c = -2 then m else loS v σ (1001 - (c + 1)) (c + 1) (loR v σ c r) (max m (loR v σ c r)) := by
  rw [show 1001 - c = (1001 - (c + 1)) + 1 by omega]
  rfl
theorem loS_e {v : Int32} {σ : sT} {c r m : Nat} (h : c < 1001) (e : fuA v false σ c = -2) : loS v σ (1001 - c) c r m = m := (loS_s h).trans (if_pos e)
theorem loS_g {v : Int32} {σ : sT} {c r m : Nat} (h : c < 1001) (e : ¬ fuA v false σ c = -2) : loS v σ (1001 - c) c r m = loS v σ (1001 - (c + 1)) (c + 1) (loR v σ c r) (max m (loR v σ c r)) := (loS_s h).trans (if_neg e)
theorem max_nI {a b : Nat} (ha : a < 2 ^ 31) (hb : b < 2 ^ 31) : (if nI a < nI b then nI b else nI a) = nI (max a b) := by
  by_cases h : a < b
  · rw [if_pos ((nI_ltI ha hb).mpr h)]; congr 1; omega
  · rw [if_neg (fun q => h ((nI_ltI ha hb).mp q))]; congr 1; omega
-- how many updates are left
def ulY (v st : Int32) (τ : sT) : Bool := decide (0 < (fUpd v false (upd τ 4 st)).1) && (decide ((fBoot (fUpd v false (upd τ 4 st)).2).1 = 1 - τ 8) && decide (0 ≤ (fCon (fBoot (fUpd v false (upd τ 4 st)).2).2).1))
theorem ulY_i {v st : Int32} {τ : sT} : ulY v st τ = true ↔ 0 < (fUpd v false (upd τ 4 st)).1 ∧ (fBoot (fUpd v false (upd τ 4 st)).2).1 = 1 - τ 8 ∧ 0 ≤ (fCon (fBoot (fUpd v false (upd τ 4 st)).2).2).1 := by
  simp only [ulY, Bool.and_eq_true, decide_eq_true_eq]
def ulT (v st : Int32) (τ : sT) : sT := (fCon (fBoot (fUpd v false (upd τ 4 st)).2).2).2
def ulS (v st : Int32) : Nat → Nat → sT → Nat
  | 0, n, _ => n
  | t + 1, n, τ => if ulY v st τ = true then ulS v st t (n + 1) (ulT v st τ) else n
def a_ul (v : Int32) (σ : sT) : Int32 := if errU v σ = 0 then nI (ulS v (σ 4) (60 - 0) 0 (upd σ 6 (-1))) else errU v σ - 100
theorem ulS_y {v st : Int32} {n : Nat} {τ : sT} (h : n < 60) (e : ulY v st τ = true) : ulS v st (60 - n) n τ = ulS v st (60 - (n + 1)) (n + 1) (ulT v st τ) := by
  rw [show 60 - n = (60 - (n + 1)) + 1 by omega]
  exact if_pos e
theorem ulS_n {v st : Int32} {n : Nat} {τ : sT} (h : n < 60) (e : ¬ ulY v st τ = true) : ulS v st (60 - n) n τ = n := by
  rw [show 60 - n = (60 - (n + 1)) + 1 by omega]
  exact if_neg e
theorem ulS_60 {v st : Int32} {τ : sT} : ulS v st (60 - 60) 60 τ = 60 := rfl
-- two cuts
def fpP (v : Int32) (σ : sT) (c b : Nat) : Bool := decide ((fAft v false (nI c) (nI b) σ).1 = -1)
def fpX (v : Int32) (σ : sT) (c : Nat) : Int32 := fstI (fpP v σ c) (-1) (12 - 0) 0
def fpS (v : Int32) (σ : sT) : Nat → Nat → Int32
  | 0, _ => -1
  | t + 1, c => if (fAft v false (nI c) (nI 11) σ).1 = -2 then -1 else if fpX v σ c = -1 then fpS v σ t (c + 1) else nI (100 * c + tn (fpX v σ c))
def a_fp (v : Int32) (σ : sT) : Int32 := if errU v σ = 0 then fpS v σ (1001 - 0) 0 else errU v σ - 100
theorem fpS_s {v : Int32} {σ : sT} {c : Nat} (h : c < 1001) : fpS v σ (1001 - c) c = if (fAft v false (nI c) (nI 11) σ).1 = -2 then -1 else if fpX v σ c = -1 then fpS v σ (1001 - (c + 1)) (c + 1) else nI (100 * c + tn (fpX v σ c)) := by
  rw [show 1001 - c = (1001 - (c + 1)) + 1 by omega]
  rfl
theorem fpS_e {v : Int32} {σ : sT} {c : Nat} (h : c < 1001) (e : (fAft v false (nI c) (nI 11) σ).1 = -2) : fpS v σ (1001 - c) c = -1 := (fpS_s h).trans (if_pos e)
theorem fpS_g {v : Int32} {σ : sT} {c : Nat} (h : c < 1001) (e : ¬ (fAft v false (nI c) (nI 11) σ).1 = -2) (e2 : fpX v σ c = -1) : fpS v σ (1001 - c) c = fpS v σ (1001 - (c + 1)) (c + 1) := (fpS_s h).trans ((if_neg e).trans (if_pos e2))
theorem fpS_h {v : Int32} {σ : sT} {c b : Nat} (h : c < 1001) (e : ¬ (fAft v false (nI c) (nI 11) σ).1 = -2) (hb : b < 12) (e2 : fpX v σ c = nI b) : fpS v σ (1001 - c) c = nI (100 * c + b) := by
  rw [fpS_s h, if_neg e, if_neg (by rw [e2]; exact nI_nm1 (by omega)), e2, tn_nI (by omega)]
theorem aft_2 {v : Int32} {thr : Bool} {σ : sT} {c b b' : Int32} (h : Inv σ) (hc : (-1 : Int) ≤ c.toInt) (hb : (-1 : Int) ≤ b.toInt) (hb' : (-1 : Int) ≤ b'.toInt) (e : (fAft v thr c b σ).1 = -2) : (fAft v thr c b' σ).1 = -2 := by
  rcases aft_c (v := v) (thr := thr) h hc hb with ⟨_, q⟩ | ⟨_, q | q | q⟩
  · rw [aft_n q]
  · rw [e] at q; exact absurd q (by decide)
  · rw [e] at q; exact absurd q (by decide)
  · rw [e] at q; exact absurd q (by decide)
-- how many boots to another slot
def brF (f b : Int32) : Int32 := if f = -1 then b else f
def brS : Nat → Nat → Int32 → sT → Int32
  | 0, _, _, _ => -1
  | t + 1, n, f, τ => if (fBoot τ).1 = -1 then -1 else if (fBoot τ).1 = brF f (fBoot τ).1 then brS t (n + 1) (brF f (fBoot τ).1) (fBoot τ).2 else nI n
def a_br (σ : sT) : Int32 := brS (11 - 1) 1 (σ 8) (upd σ 6 (-1))
theorem brS_s {n : Nat} {f : Int32} {τ : sT} (h : n < 11) : brS (11 - n) n f τ = if (fBoot τ).1 = -1 then -1 else if (fBoot τ).1 = brF f (fBoot τ).1 then brS (11 - (n + 1)) (n + 1) (brF f (fBoot τ).1) (fBoot τ).2 else nI n := by
  rw [show 11 - n = (11 - (n + 1)) + 1 by omega]
  rfl
theorem brS_e {n : Nat} {f : Int32} {τ : sT} (h : n < 11) (e : (fBoot τ).1 = -1) : brS (11 - n) n f τ = -1 := (brS_s h).trans (if_pos e)
theorem brS_g {n : Nat} {f g : Int32} {τ : sT} (h : n < 11) (e : ¬ (fBoot τ).1 = -1) (hg : brF f (fBoot τ).1 = g) (e2 : (fBoot τ).1 = g) : brS (11 - n) n f τ = brS (11 - (n + 1)) (n + 1) g (fBoot τ).2 := by subst hg; exact (brS_s h).trans ((if_neg e).trans (if_pos e2))
theorem brS_h {n : Nat} {f g : Int32} {τ : sT} (h : n < 11) (e : ¬ (fBoot τ).1 = -1) (hg : brF f (fBoot τ).1 = g) (e2 : ¬ (fBoot τ).1 = g) : brS (11 - n) n f τ = nI n := by subst hg; exact (brS_s h).trans ((if_neg e).trans (if_neg e2))
-- the first cut of a boot that changes what runs
def fbW (σ : sT) (c : Nat) : Int32 := (fBoot (upd (fBoot (upd σ 6 (nI c))).2 6 (-1))).1
def fbS (σ : sT) : Nat → Nat → Int32
  | 0, _ => -1
  | t + 1, c => if (fBoot (upd σ 6 (nI c))).1 = -4 then (if fbW σ c = (fBoot (upd σ 6 (-1))).1 then fbS σ t (c + 1) else nI c) else -1
def a_fb (σ : sT) : Int32 := fbS σ (1001 - 0) 0
theorem fbS_s {σ : sT} {c : Nat} (h : c < 1001) : fbS σ (1001 - c) c = if (fBoot (upd σ 6 (nI c))).1 = -4 then (if fbW σ c = (fBoot (upd σ 6 (-1))).1 then fbS σ (1001 - (c + 1)) (c + 1) else nI c) else -1 := by
  rw [show 1001 - c = (1001 - (c + 1)) + 1 by omega]
  rfl
theorem fbS_e {σ : sT} {c : Nat} (h : c < 1001) (e : ¬ (fBoot (upd σ 6 (nI c))).1 = -4) : fbS σ (1001 - c) c = -1 := (fbS_s h).trans (if_neg e)
theorem fbS_g {σ : sT} {c : Nat} (h : c < 1001) (e : (fBoot (upd σ 6 (nI c))).1 = -4) (e2 : fbW σ c = (fBoot (upd σ 6 (-1))).1) : fbS σ (1001 - c) c = fbS σ (1001 - (c + 1)) (c + 1) := (fbS_s h).trans ((if_pos e).trans (if_pos e2))
theorem fbS_h {σ : sT} {c : Nat} (h : c < 1001) (e : (fBoot (upd σ 6 (nI c))).1 = -4) (e2 : ¬ fbW σ c = (fBoot (upd σ 6 (-1))).1) : fbS σ (1001 - c) c = nI c := (fbS_s h).trans ((if_pos e).trans (if_neg e2))
theorem fb_lt {σ : sT} {c : Nat} (h : Inv σ) (hc : c < 1001) (e : (fBoot (upd σ 6 (nI c))).1 = -4) : c < 15 := by
  rcases Nat.lt_or_ge c 15 with q | q
  · exact q
  · exact absurd e (boot_4 (h.pn (by omega)) (pwB_n q (by omega)))
-- words and power stay
theorem cut_ne {σ : sT} {k : Nat} (h : k < 7) : sCut σ k = σ k := (sNote_ne (by omega) (by omega) (by omega)).trans ((upd_n (by omega)).trans (upd_n (by omega)))
theorem run_ne {σ : sT} {k : Nat} {v : Int32} (h : k < 7) : sRun σ v k = σ k := (sNote_ne (by omega) (by omega) (by omega)).trans ((upd_n (by omega)).trans (upd_n (by omega)))
theorem wait_ne {σ : sT} {k : Nat} (h : k < 7) : sWait σ k = σ k := (sNote_ne (by omega) (by omega) (by omega)).trans (upd_n (by omega))
theorem rest_ne {σ : sT} {k : Nat} (h : k < 7) : (fRest σ).2 k = σ k := by
  unfold fRest
  split
  · exact run_ne h
  · split
    · exact run_ne h
    · split
      · exact run_ne h
      · exact wait_ne h
theorem try_ne {σ : sT} {k : Nat} (h : k < 6) : (fTry σ).2 k = σ k := by
  have hk : Kp k := by unfold Kp; omega
  unfold fTry
  split
  · rfl
  · split
    · split
      · exact (run_ne (by omega)).trans (fApp_ne hk)
      · exact (cut_ne (by omega)).trans (fApp_ne hk)
    · split
      · exact fApp_ne hk
      · exact (cut_ne (by omega)).trans (fApp_ne hk)
theorem boot_ne {σ : sT} {k : Nat} (h : k < 6) : (fBoot σ).2 k = σ k := by
  have hk : Kp k := by unfold Kp; omega
  have h0 : sOff σ k = σ k := (upd_n (by omega)).trans (upd_n (by omega))
  unfold fBoot
  split
  · unfold fTR
    split
    · exact (rest_ne (by omega)).trans ((try_ne h).trans ((fPrep_ne hk).trans h0))
    · exact (try_ne h).trans ((fPrep_ne hk).trans h0)
  · exact (cut_ne (by omega)).trans ((fPrep_ne hk).trans h0)
theorem con_ne {σ : sT} {k : Nat} (h : k < 6) : (fCon σ).2 k = σ k := by
  have hk : Kp k := by unfold Kp; omega
  have ho : ∀ v r, (opC v r σ).2 k = σ k := fun v r => by
    unfold opC
    refine sq_P (P := fun τ => τ k = σ k) (fApp_ne hk) (fun _ => ?_)
    split
    · exact (fApp_ne hk).trans (fApp_ne hk)
    · exact fApp_ne hk
  unfold fCon
  split
  · dsimp only
    split
    · exact ho _ _
    · exact (cut_ne (by omega)).trans (ho _ _)
  · rfl
theorem upd_ne {v : Int32} {thr : Bool} {σ : sT} {k : Nat} (h : k < 6) (h4 : k ≠ 4) : (fUpd v thr σ).2 k = σ k := by
  have hk : Kp k := by unfold Kp; omega
  unfold fUpd
  split
  · unfold endU
    split
    · exact (upd_n h4).trans (opu_4 (by omega) (by omega) (by omega) hk)
    · exact (cut_ne (by omega)).trans (opu_4 (by omega) (by omega) (by omega) hk)
  · rfl
theorem Inv.s4 {σ τ : sT} (h : Inv τ) (hs : Inv σ) (hW : τ 0 = σ 0) : Inv (upd τ 4 (σ 4)) := by
  have hb := hs.bd
  rw [hs.w4]
  exact h.z4 (by rw [nW_of hW]; omega)
theorem op_pwk {A B k : Nat} {σ : sT} {r : Bool × sT} (hk : k = 6) (h : OpAt A B σ r) (hp : σ k = -1) : r.2 k = -1 := by subst hk; exact op_pw6 h hp
theorem run6 {σ : sT} {v : Int32} {k : Nat} (hk : k = 6) (h : σ k = -1) : sRun σ v k = -1 := (run_ne (by omega)).trans h
theorem cut6 {σ : sT} {k : Nat} (hk : k = 6) (h : σ k = -1) : sCut σ k = -1 := (cut_ne (by omega)).trans h
theorem up6k {v : Int32} {thr : Bool} {σ : sT} {k : Nat} (hk : k = 6) (h : Inv σ) (h6 : σ k = -1) : (fUpd v thr σ).2 k = -1 := by
  unfold fUpd
  split
  · unfold endU
    have h1 : (opU v thr (1 - tn (σ 8)) σ).2 k = -1 := op_pwk hk (op_opu h) h6
    split
    · show upd (opU v thr (1 - tn (σ 8)) σ).2 4 0 k = -1
      rw [upd_n (by omega)]; exact h1
    · exact cut6 hk h1
  · exact h6
theorem tr6k {σ : sT} {k : Nat} (hk : k = 6) (h1 : σ k = -1) : (fTry σ).2 k = -1 := by
  have h4 : (fApp 4 (told σ 2) σ).2 k = -1 := op_pwk hk op_app h1
  have h5 : (fApp 5 (told σ 2) σ).2 k = -1 := op_pwk hk op_app h1
  unfold fTry
  split
  · exact h1
  · split
    · split
      · exact run6 (σ := (fApp 4 (told σ 2) σ).2) (v := told σ 2) hk h4
      · exact cut6 hk h4
    · split
      · exact h5
      · exact cut6 hk h5
theorem bo6k {σ : sT} {k : Nat} (hk : k = 6) (h6 : σ k = -1) : (fBoot σ).2 k = -1 := by
  have h0 : sOff σ k = -1 := ((upd_n (by omega)).trans (upd_n (by omega))).trans h6
  have h1 : (fPrep (sOff σ)).2 k = -1 := op_pwk hk op_prep h0
  have h2 := tr6k hk h1
  have h3 : (fRest (fTry (fPrep (sOff σ)).2).2).2 k = -1 := (rest_ne (by omega)).trans h2
  unfold fBoot
  split
  · unfold fTR
    split
    · exact h3
    · exact h2
  · exact cut6 hk h1
theorem co6k {σ : sT} {k : Nat} (hk : k = 6) (h6 : σ k = -1) : (fCon σ).2 k = -1 := by
  have ho : ∀ v r, (opC v r σ).2 k = -1 := fun v r => op_pwk hk op_opc h6
  unfold fCon
  split
  · dsimp only
    split
    · exact ho _ _
    · exact cut6 hk (ho _ _)
  · exact h6
theorem up6 {v : Int32} {thr : Bool} {σ : sT} (h : Inv σ) (h6 : σ 6 = -1) : (fUpd v thr σ).2 6 = -1 := up6k rfl h h6
theorem bo6 {σ : sT} (h6 : σ 6 = -1) : (fBoot σ).2 6 = -1 := bo6k rfl h6
theorem co6 {σ : sT} (h6 : σ 6 = -1) : (fCon σ).2 6 = -1 := co6k rfl h6
/-- what boots behind an update with power is confirmed -/
theorem told_off {σ : sT} : told (sOff σ) = told σ ∧ activeI (sOff σ) = activeI σ :=
  ⟨(told_u (by decide) (by decide)).trans (told_u (by decide) (by decide)), (act_6 (by decide)).trans (act_6 (by decide))⟩
theorem run_7e {σ : sT} {v : Int32} : sRun σ v 7 = 1 := (sNote_ne (σ := upd (upd σ 7 1) 8 v) (e := 0) (k := 7) (x := v) (by decide) (by decide) (by decide)).trans ((upd_n (show (7 : Nat) ≠ 8 by decide)).trans upd_s)
theorem run_8e {σ : sT} {v : Int32} : sRun σ v 8 = v := (sNote_ne (σ := upd (upd σ 7 1) 8 v) (e := 0) (k := 8) (x := v) (by decide) (by decide) (by decide)).trans upd_s
theorem told_run {σ : sT} {v : Int32} (h : Inv σ) : told (sRun σ v) = told σ :=
  (told_j (fun k h1 h2 => (sNote_ne (by omega) (by omega) (by omega)).trans ((upd_n (by omega)).trans (upd_n (by omega)))) (run_ne (by decide)) h.bd.2.2.2.2.2.2.1).1
theorem boot_fresh {σ : sT} {s : Nat} (h : Inv σ) (hs : s < 2) (ha : ¬ activeI σ = -1) (ht : told σ 2 = nI s) (hb : (fBoot σ).1 = nI s) : (fBoot σ).2 7 = 1 ∧ told (fBoot σ).2 2 = (fBoot σ).2 8 := by
  have e1 : fBoot σ = fTR (sOff σ) := by unfold fBoot; rw [fPrep_f (by rw [told_off.2]; exact ha)]; rfl
  have t2 : told (sOff σ) 2 = nI s := by rw [told_off.1]; exact ht
  have ne4 : ¬ nI s = -4 := nI_n4 (by omega)
  have ne1 : ¬ nI s = -1 := nI_nm1 (by omega)
  rw [e1] at hb ⊢
  cases hm : mayB (sOff σ)
  · exfalso
    have e2 := fTry_b hs t2 hm
    by_cases ok : (fApp 5 (nI s) (sOff σ)).1 = true
    · rw [if_pos ok] at e2
      unfold fTR at hb
      rw [e2] at hb
      rw [if_pos rfl] at hb
      have ta := told_app h.off (okR_slot (by decide) (by decide) hs) ok
      have t1 := ta 1 (by decide) (by decide)
      have t4 := ta 4 (by decide) (by decide)
      have ho := (told_ok h.off).2.2.2.2
      have cb : ∀ u, u < 2 → canB (fApp 5 (nI s) (sOff σ)).2 u = true → ¬ u = s := fun u hu q e => by
        simp only [canB, Bool.and_eq_true, decide_eq_true_eq] at q
        have q4 := q.2.2
        rw [t4, show takeI (told (sOff σ)) (nI 5) (nI s) 4 = told (sOff σ) 4 ||| (1 <<< (nI s &&& 31)) from rfl] at q4
        exact ((or_bad ho hs hu).mp q4).1 e
      have n1 : ¬ told (fApp 5 (nI s) (sOff σ)).2 1 = nI s := by
        rw [t1, show takeI (told (sOff σ)) (nI 5) (nI s) 1 = if (5 : Int32) = 2 then nI s else if (5 : Int32) = 5 ∧ told (sOff σ) 1 = nI s then -1 else told (sOff σ) 1 from rfl, if_neg (by decide)]
        split
        · intro q; exact ne1 q.symm
        · rename_i q; intro q2; exact q ⟨rfl, q2⟩
      unfold fRest at hb
      split at hb
      · exact n1 hb
      · split at hb
        · rename_i q
          exact cb 0 (by decide) q (nI_s (by decide) hs hb)
        · split at hb
          · rename_i q
            exact cb 1 (by decide) q (nI_s (by decide) hs hb)
          · exact ne1 hb.symm
    · rw [if_neg ok] at e2
      unfold fTR at hb
      rw [e2, if_neg (show ¬ (-4 : Int32) = -1 by decide)] at hb
      exact ne4 hb.symm
  · have e2 := fTry_m hs t2 hm
    by_cases ok : (fApp 4 (nI s) (sOff σ)).1 = true
    · rw [if_pos ok] at e2
      have e3 : fTR (sOff σ) = (nI s, sRun (fApp 4 (nI s) (sOff σ)).2 (nI s)) := by
        unfold fTR
        rw [e2, if_neg ne1]
      rw [e3]
      have ta := told_app h.off (okR_slot (by decide) (by decide) hs) ok 2 (by decide) (by decide)
      refine ⟨run_7e (σ := (fApp 4 (nI s) (sOff σ)).2) (v := nI s), ?_⟩
      show told (sRun (fApp 4 (nI s) (sOff σ)).2 (nI s)) 2 = sRun (fApp 4 (nI s) (sOff σ)).2 (nI s) 8
      rw [told_run h.off.app, ta, show takeI (told (sOff σ)) (nI 4) (nI s) 2 = told (sOff σ) 2 from rfl, t2]
      exact (run_8e (σ := (fApp 4 (nI s) (sOff σ)).2) (v := nI s)).symm
    · rw [if_neg ok] at e2
      unfold fTR at hb
      rw [e2, if_neg (show ¬ (-4 : Int32) = -1 by decide)] at hb
      exact absurd hb.symm ne4
theorem con_free {σ : sT} (h : Inv σ) (h6 : σ 6 = -1) (h7 : σ 7 = 1 ∧ told σ 2 = σ 8) : 0 ≤ (fCon σ).1 := by
  obtain ⟨r, hr, er⟩ := h.2.2.1.run h7.1
  rw [fCon_y h7 hr er, letc_t (pr_e (op_ok op_opc (Or.inl h6)))]
  obtain ⟨f, hf, e⟩ := (told_ok (h.opc (v := σ (83 + 64 * r)) (r := r))).1
  show 0 ≤ told (opC (σ (83 + 64 * r)) r σ).2 0
  rw [e]
  exact (nI_leI (a := 0) (by decide) (by omega)).mpr (Nat.zero_le _)
theorem ul_con {v : Int32} {σ : sT} (h : Inv σ) (h6 : σ 6 = -1) (he : errU v σ = 0) (hb : (fBoot (fUpd v false σ).2).1 = 1 - σ 8) : 0 ≤ (fCon (fBoot (fUpd v false σ).2).2).1 := by
  obtain ⟨r, hr, er⟩ := h.2.2.1.run (errU_0 he).1
  have etn : tn (σ 8) = r := by rw [er, tn_nI (by omega)]
  have hu := h.upda (v := v) (thr := false)
  refine con_free hu.boot (bo6 (up6 h h6)) ?_
  rcases upd_o (thr := false) h he with ⟨_, q⟩ | ⟨ok, _, _, _, _, e2⟩
  · exact absurd (q.symm.trans (upd_pw h he (Or.inl h6))) (by decide)
  · rw [etn] at ok e2
    have o2 := ok
    unfold opU at o2
    obtain ⟨o3, o4⟩ := sq_ok o2
    have hi := h.img (s := 1 - r) (thr := false) (pay := payS σ) (c := nS σ) (v := v) (by omega) (by have := h.bd; omega)
    have e3 : (opU v false (1 - r) σ).2 = (fApp 3 (nI (1 - r)) (fImg (1 - r) false (payS σ) (nS σ) v σ).2).2 := by unfold opU; rw [sq_t o3]
    have ta := told_app hi (okR_slot (k := 3) (s := 1 - r) (by decide) (by decide) (by omega)) o4 2 (by decide) (by decide)
    have aa := app_act hi (okR_slot (k := 3) (s := 1 - r) (by decide) (by decide) (by omega)) o4
    refine boot_fresh (s := 1 - r) hu (by omega) ?_ ?_ ?_
    · rw [e2, act_6 (by decide), e3]; exact aa
    · rw [e2, told_u (by decide) (by decide), e3, ta]; rfl
    · rw [hb, er]; exact pk_sub (a := 1) (b := r) (by omega)
