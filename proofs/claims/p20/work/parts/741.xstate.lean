/-! least numbers with a property -/
theorem mf_ex {Q : Nat → Prop} (h : ∃ n, Q n) : ∃ n, Q n ∧ ∀ m, Q m → n ≤ m := by
  obtain ⟨n, hn⟩ := h
  induction n using Nat.strongRecOn with
  | ind n ih =>
    by_cases hm : ∃ m, m < n ∧ Q m
    · obtain ⟨m, h1, h2⟩ := hm
      exact ih m h1 h2
    · exact ⟨n, hn, fun m hq => Nat.not_lt.mp fun hl => hm ⟨m, hl, hq⟩⟩
noncomputable def mf (Q : Nat → Prop) : Nat := Classical.epsilon (fun n => Q n ∧ ∀ m, Q m → n ≤ m)
theorem mf_sp {Q : Nat → Prop} (h : ∃ n, Q n) : Q (mf Q) ∧ ∀ m, Q m → mf Q ≤ m := Classical.epsilon_spec (mf_ex h)
theorem mf_ok {Q : Nat → Prop} (h : ∃ n, Q n) : ∃ m, mf Q = m ∧ Q m := ⟨mf Q, rfl, (mf_sp h).1⟩
theorem mf_le {Q : Nat → Prop} {n : Nat} (h : Q n) : mf Q ≤ n := (mf_sp ⟨n, h⟩).2 n h
/-! small laws -/
theorem nu_ok {c b : Bool} (h : cond c false b = true) : c = false ∧ b = true := by
  cases c
  · exact ⟨rfl, h⟩
  · exact absurd h Bool.false_ne_true
theorem an_ok {c b : Bool} (h : and c b = true) : c = true ∧ b = true := by
  cases c
  · exact absurd h Bool.false_ne_true
  · exact ⟨rfl, h⟩
theorem nu_no {e v : Nat} (h : Nat.beq v 1000000 = false) (hu : e = v) : ¬ e = NU := by
  intro q
  rw [hu] at q
  rw [q] at h
  exact absurd h (by decide)
theorem g_le {x : Int32} (h : 0 < x) : ¬ x ≤ 0 := by
  rw [Int32.lt_iff_toInt_lt] at h
  rw [Int32.le_iff_toInt_le]
  omega
theorem g_ne {x : Int32} (h : 0 < x) : ¬ x = 0 := by
  intro q
  rw [q] at h
  exact absurd h (by decide)
theorem n_nar {x : Int32} {a : Nat} (hx : x = Int32.ofNat a) : vp_nar .boolean x = Int32.ofNat (Nat.land a 1) := by
  show x &&& 1 = _
  exact n_and hx rfl
theorem nar_ok {x : Int32} {a : Nat} (hx : x = Int32.ofNat a) (h : Nat.blt a 2 = true) : narrow .boolean (.int x) = .int x := by
  have h1 : a < 2 := Nat.le_of_ble_eq_true h
  rw [hx]
  rcases (show a = 0 ∨ a = 1 by omega) with rfl | rfl <;> rfl
/-! classes and lengths of units -/
def CLN : Nat := 211426232461085694419836738172644979071128377772793172509295743167009135323400700115126574110278949083664525593994259618810768057007005984574481584889813533219479357176434864809044917526611210753973157607546093919550873152026709233930424245615451126807017044556149091680388537512021059664772488429794029218606451577767910052756694615196057855977105910641195629675989414971821541020840790716962987042715742616602497977519305037787025818850902282633617887645870875488445515536503244858343960125874185639723468295241370670135187269243632295187765507729794053925751353732901226026244340059052511876779993193660869046329747167369897087041541686780245099867012921749253182808914929235053350124754305025
def LNN : Nat := 236619115172938379653596542720841238283775374220317310515957835860835308612774409029374106571843960783036114299986134867503814436349230567828312307672633741839971176981063652230217178521064663132842826738691433293894490951514365373165657702297669143260264193175465549290771315987261603414754363981966298373696644212614640156062546707551414938335207002871295159779600560267050597128519655544215454692364207915228188507936928472989992584595903631311748676717355425047667414090025277047316478280150251019213394775813114856813262701330002286214542644429856193979789055530483029351576511497000894597801325870311574223530592813358991602523879773298546133462481962367728763851134269084356820917551104
def clx (u : Nat) : Nat := Nat.mod (Nat.shiftRight CLN (Nat.mul 20 u)) 1048576
def lnx (u : Nat) : Nat := Nat.mod (Nat.shiftRight LNN (Nat.mul 20 u)) 1048576
set_option maxRecDepth 10000 in
theorem cl_tab : ∀ u : Fin 116, c_cl UL u.val = clx u.val ∧ c_ln UL u.val = lnx u.val := by decide +kernel
theorem clx_0 {u : Nat} (h : 116 ≤ u) : clx u = 0 ∧ lnx u = 0 := by
  have h1 : CLN < 2 ^ (20 * u) := Nat.lt_of_lt_of_le (show CLN < 2 ^ (20 * 116) by decide +kernel) (Nat.pow_le_pow_right (by decide) (by omega))
  have h2 : LNN < 2 ^ (20 * u) := Nat.lt_of_lt_of_le (show LNN < 2 ^ (20 * 116) by decide +kernel) (Nat.pow_le_pow_right (by decide) (by omega))
  constructor
  · show (CLN >>> (20 * u)) % 1048576 = 0
    rw [Nat.shiftRight_eq_div_pow, Nat.div_eq_of_lt h1]
  · show (LNN >>> (20 * u)) % 1048576 = 0
    rw [Nat.shiftRight_eq_div_pow, Nat.div_eq_of_lt h2]
theorem cl_ok {u e n : Nat} (h : Nat.beq (clx u) n = true) (hu : e = u) (hn : ¬ n = 0) : c_cl UL e = n := by
  have h1 := Nat.eq_of_beq_eq_true h
  subst hu
  by_cases hl : e < 116
  · rw [(cl_tab ⟨e, hl⟩).1]; exact h1
  · exact absurd (h1.symm.trans (clx_0 (Nat.not_lt.mp hl)).1) hn
theorem ln_eq {u : Nat} (h : u < 116) : c_ln UL u = lnx u := (cl_tab ⟨u, h⟩).2
theorem vpc_ok {u e a : Nat} {x : Int32} (h : Nat.blt a (lnx u) = true) (hx : x = Int32.ofNat a) (hu : e = u) : vp_in x (c_ln UL e) := by
  subst hu
  have h1 : a < lnx e := Nat.le_of_ble_eq_true h
  by_cases hl : e < 116
  · rw [ln_eq hl]
    exact n_vp hx h (Nat.le_of_lt (Nat.lt_trans (show lnx e < 1048576 from Nat.mod_lt _ (by decide)) (by decide)))
  · rw [(clx_0 (Nat.not_lt.mp hl)).2] at h1
    exact absurd h1 (Nat.not_lt_zero _)
/-- the length of a row, as a number -/
theorem n_ln {u e : Nat} (hl : Nat.blt u 116 = true) (hu : e = u) : nI (c_ln UL e) = Int32.ofNat (lnx u) := by
  subst hu
  rw [ln_eq (Nat.le_of_ble_eq_true hl)]
  rfl
/-- a table of units that is the final one's beginning -/
def PX (U : ut) (n : Nat) : Prop := U.length = n ∧ ∀ e, e < n → c_cl U e = clx e ∧ c_ln U e = lnx e
theorem cl_okU {U : ut} {n u e c : Nat} (hU : PX U n) (hl : Nat.blt u n = true) (h : Nat.beq (clx u) c = true) (hu : e = u) : c_cl U e = c := by
  subst hu
  rw [(hU.2 e (Nat.le_of_ble_eq_true hl)).1]
  exact Nat.eq_of_beq_eq_true h
theorem vpc_okU {U : ut} {n u e a : Nat} {x : Int32} (hU : PX U n) (hl : Nat.blt u n = true) (h : Nat.blt a (lnx u) = true) (hx : x = Int32.ofNat a) (hu : e = u) : vp_in x (c_ln U e) := by
  subst hu
  rw [(hU.2 e (Nat.le_of_ble_eq_true hl)).2]
  exact n_vp hx h (Nat.le_of_lt (Nat.lt_trans (show lnx e < 1048576 from Nat.mod_lt _ (by decide)) (by decide)))
theorem n_lnU {U : ut} {n u e : Nat} (hU : PX U n) (hl : Nat.blt u n = true) (hu : e = u) : nI (c_ln U e) = Int32.ofNat (lnx u) := by
  subst hu
  rw [(hU.2 e (Nat.le_of_ble_eq_true hl)).2]
  rfl
theorem PX_UL : PX UL 116 := ⟨rfl, fun e h => cl_tab ⟨e, h⟩⟩
theorem PX_app {U : ut} {n c l : Nat} (hU : PX U n) (h : and (Nat.beq (clx n) c) (Nat.beq (lnx n) l) = true) : PX (U ++ [(c, l)]) (n + 1) := by
  obtain ⟨h1, h2⟩ := an_ok h
  have e1 := Nat.eq_of_beq_eq_true h1
  have e2 := Nat.eq_of_beq_eq_true h2
  refine ⟨by rw [List.length_append, hU.1]; rfl, fun e he => ?_⟩
  by_cases hl : e < n
  · rw [c_cl_app (by rw [hU.1]; exact hl), c_ln_app (by rw [hU.1]; exact hl)]
    exact hU.2 e hl
  · have e3 : e = n := by omega
    subst e3
    rw [c_clN hU.1, c_lnN hU.1]
    exact ⟨e1.symm, e2.symm⟩
/-! the class's rows that never change -/
def SLN : Nat := 3312306222968089586731185601498141009621689269144996811439818700749531656589837503641723384746499046227853201066749162834260470047383930792318848175964416
def QUN : Nat := 4148769343251555715585329138005774336
noncomputable def rd_sl (a : Nat) (k : Nat → Bool) : Bool := cond (Nat.blt a 64) (frc (Nat.mod (Nat.shiftRight SLN (Nat.mul 8 a)) 256) k) false
noncomputable def rd_qu (a : Nat) (k : Nat → Bool) : Bool := cond (Nat.blt a 9) (frc (Nat.mod (Nat.shiftRight QUN (Nat.mul 16 a)) 65536) k) false
theorem rd_sl_ok {a : Nat} {k : Nat → Bool} {x : Int32} (h : rd_sl a k = true) (hx : x = Int32.ofNat a) : ∃ v, k v = true ∧ rw_at row_sl x.toNatClampNeg = Int32.ofNat v := by
  obtain ⟨h1, h⟩ := x_and h
  have h2 : a < 64 := Nat.le_of_ble_eq_true h1
  have ht : ∀ a : Fin 64, rw_at row_sl a.val = Int32.ofNat (Nat.mod (Nat.shiftRight SLN (Nat.mul 8 a.val)) 256) := by decide +kernel
  exact ⟨_, frc_ok h, by rw [n_idx hx (by omega)]; exact ht ⟨a, h2⟩⟩
theorem rd_qu_ok {a : Nat} {k : Nat → Bool} {x : Int32} (h : rd_qu a k = true) (hx : x = Int32.ofNat a) : ∃ v, k v = true ∧ rw_at row_qu x.toNatClampNeg = Int32.ofNat v := by
  obtain ⟨h1, h⟩ := x_and h
  have h2 : a < 9 := Nat.le_of_ble_eq_true h1
  have ht : ∀ a : Fin 9, rw_at row_qu a.val = Int32.ofNat (Nat.mod (Nat.shiftRight QUN (Nat.mul 16 a.val)) 65536) := by decide +kernel
  exact ⟨_, frc_ok h, by rw [n_idx hx (by omega)]; exact ht ⟨a, h2⟩⟩
/-! the class's known states -/
def dr (c : Nat) : Nat := cond (Nat.beq c 0) 1000000 (Nat.sub c 1)
def RC (S : cs) (t : X8) : Prop :=
  (∀ u, u < 116 → ∀ k, gv (l8 t u) k < 4294967296 → S.1 u k = Int32.ofNat (gv (l8 t u) k)) ∧ (∀ u, u < 116 → ∀ k, S.2.2 u k = dr (gr (l8 t (128 + u)) k)) ∧ (∀ k, gvL (l8 t 244) k < 18446744073709551616 → S.2.1 11 k = Int64.ofNat (gvL (l8 t 244) k)) ∧ ∀ k, gvL (l8 t 245) k < 18446744073709551616 → S.2.1 115 k = Int64.ofNat (gvL (l8 t 245) k)
noncomputable def rdi (t : X8) (u k : Nat) (κ : Nat → Bool) : Bool := cond (Nat.blt u 116) (g8 t u fun n => frc (gv n k) fun c => cond (Nat.blt c 4294967296) (κ c) false) false
noncomputable def rda (t : X8) (u a : Nat) (κ : Nat → Bool) : Bool := cond (Nat.blt a 2147483648) (rdi t u a κ) false
noncomputable def rdr (t : X8) (u k : Nat) (κ : Nat → Bool) : Bool := cond (Nat.blt u 116) (g8 t (Nat.add 128 u) fun n => frc (dr (gr n k)) κ) false
noncomputable def rdra (t : X8) (u a : Nat) (κ : Nat → Bool) : Bool := cond (Nat.blt a 2147483648) (rdr t u a κ) false
noncomputable def wri (t : X8) (u k a : Nat) (κ : X8 → Bool) : Bool := cond (Nat.blt u 116) (g8 t u fun n => frc (sv n k (Nat.mod a 4294967296)) fun n' => s8 t u n' κ) false
noncomputable def wra (t : X8) (u i a : Nat) (κ : X8 → Bool) : Bool := cond (Nat.blt i 2147483648) (wri t u i a κ) false
noncomputable def wri_h (t : X8) (u k : Nat) (κ : X8 → Bool) : Bool := cond (Nat.blt u 116) (g8 t u fun n => frc (sv n k 4294967296) fun n' => s8 t u n' κ) false
noncomputable def wra_h (t : X8) (u i : Nat) (κ : X8 → Bool) : Bool := cond (Nat.blt i 2147483648) (wri_h t u i κ) false
noncomputable def rdq (t : X8) (i a : Nat) (κ : Nat → Bool) : Bool := g8 t i fun n => frc (gvL n a) fun c => cond (Nat.blt c 18446744073709551616) (κ c) false
noncomputable def rdl (t : X8) (u a : Nat) (κ : Nat → Bool) : Bool := cond (Nat.blt a 2147483648) (cond (Nat.beq u 11) (rdq t 244 a κ) (cond (Nat.beq u 115) (rdq t 245 a κ) false)) false
noncomputable def wrl (t : X8) (u i a : Nat) (κ : X8 → Bool) : Bool := cond (Nat.blt i 2147483648) (cond (Nat.beq u 11) (g8 t 244 fun n => frc (svL n i (Nat.mod a 18446744073709551616)) fun n' => s8 t 244 n' κ) false) false
noncomputable def wrr (t : X8) (u k r : Nat) (κ : X8 → Bool) : Bool := cond (and (Nat.blt u 116) (Nat.blt r 2000)) (g8 t (Nat.add 128 u) fun n => frc (sr n k (Nat.add r 1)) fun n' => s8 t (Nat.add 128 u) n' κ) false
section XC
variable {S : cs} {t : X8} {u e k a i : Nat} {κ : Nat → Bool} {κt : X8 → Bool} {x v : Int32} {w : Int64}
theorem rdi_ok (h : rdi t u k κ = true) (hS : RC S t) (hu : e = u) : ∃ v, κ v = true ∧ S.1 e k = Int32.ofNat v := by
  obtain ⟨h1, h⟩ := x_and h
  rw [g8_ok] at h
  obtain ⟨h2, h⟩ := x_and (frc_ok h)
  subst hu
  exact ⟨_, h, hS.1 e (Nat.le_of_ble_eq_true h1) k (Nat.le_of_ble_eq_true h2)⟩
theorem rda_ok (h : rda t u a κ = true) (hS : RC S t) (hu : e = u) (hx : x = Int32.ofNat a) : ∃ v, κ v = true ∧ S.1 e x.toNatClampNeg = Int32.ofNat v := by
  obtain ⟨h1, h⟩ := x_and h
  rw [n_idx hx (Nat.le_of_ble_eq_true h1)]
  exact rdi_ok h hS hu
theorem rdr_ok (h : rdr t u k κ = true) (hS : RC S t) (hu : e = u) : ∃ v, κ v = true ∧ S.2.2 e k = v := by
  obtain ⟨h1, h⟩ := x_and h
  rw [g8_ok] at h
  subst hu
  exact ⟨_, frc_ok h, hS.2.1 e (Nat.le_of_ble_eq_true h1) k⟩
theorem rdra_ok (h : rdra t u a κ = true) (hS : RC S t) (hu : e = u) (hx : x = Int32.ofNat a) : ∃ v, κ v = true ∧ S.2.2 e x.toNatClampNeg = v := by
  obtain ⟨h1, h⟩ := x_and h
  rw [n_idx hx (Nat.le_of_ble_eq_true h1)]
  exact rdr_ok h hS hu
theorem rdl_ok (h : rdl t u a κ = true) (hS : RC S t) (hu : e = u) (hx : x = Int32.ofNat a) : ∃ v, κ v = true ∧ S.2.1 e x.toNatClampNeg = Int64.ofNat v := by
  obtain ⟨h1, h⟩ := x_and h
  rw [n_idx hx (Nat.le_of_ble_eq_true h1)]
  subst hu
  cases hb : Nat.beq e 11
  · rw [hb] at h
    obtain ⟨h3, h9⟩ := x_and h
    have h4 := Nat.eq_of_beq_eq_true h3
    subst h4
    unfold rdq at h9
    rw [g8_ok] at h9
    obtain ⟨h2, h8⟩ := x_and (frc_ok h9)
    exact ⟨_, h8, hS.2.2.2 a (Nat.le_of_ble_eq_true h2)⟩
  · rw [hb] at h
    have h4 := Nat.eq_of_beq_eq_true hb
    subst h4
    have h9 : rdq t 244 a κ = true := h
    unfold rdq at h9
    rw [g8_ok] at h9
    obtain ⟨h2, h8⟩ := x_and (frc_ok h9)
    exact ⟨_, h8, hS.2.2.1 a (Nat.le_of_ble_eq_true h2)⟩
theorem RC_set {m : Nat} (hl : u < 116) (hS : RC S t) (hv : ∀ j, gv m j < 4294967296 → upd (S.1 u) k v j = Int32.ofNat (gv m j)) : RC (va_up S.1 u (upd (S.1 u) k v), S.2.1, S.2.2) (u8 t u m) := by
  refine ⟨fun w hw j hj => ?_, fun w hw j => ?_, fun j hj => ?_, fun j hj => ?_⟩
  · rw [lu8 t (by omega) (by omega)] at hj ⊢
    show va_up S.1 u (upd (S.1 u) k v) w j = _
    by_cases hwu : w = u
    · rw [if_pos hwu] at hj ⊢
      subst hwu
      rw [up_at]
      exact hv j hj
    · rw [if_neg hwu] at hj ⊢
      rw [up_ne hwu]
      exact hS.1 w hw j hj
  · rw [lu8 t (by omega) (by omega), if_neg (by omega)]
    exact hS.2.1 w hw j
  · rw [lu8 t (by omega) (by omega), if_neg (by omega)] at hj ⊢
    exact hS.2.2.1 j hj
  · rw [lu8 t (by omega) (by omega), if_neg (by omega)] at hj ⊢
    exact hS.2.2.2 j hj
theorem wri_ok (h : wri t u k a κt = true) (hS : RC S t) (hu : e = u) (hv : v = Int32.ofNat a) : ∃ t', κt t' = true ∧ RC (va_up S.1 e (upd (S.1 e) k v), S.2.1, S.2.2) t' := by
  obtain ⟨h1, h⟩ := x_and h
  have hl : u < 116 := Nat.le_of_ble_eq_true h1
  rw [g8_ok] at h
  have h := frc_ok h
  rw [s8_ok] at h
  subst hu
  refine ⟨_, h, RC_set hl hS (fun j hj => ?_)⟩
  have hm : Nat.mod a 4294967296 < 8589934592 := Nat.lt_trans (Nat.mod_lt _ (by decide)) (by decide)
  rw [gv_sv hm] at hj ⊢
  unfold upd
  by_cases hjk : j = k
  · rw [if_pos hjk, if_pos hjk, hv]
    exact (n_mod a).symm
  · rw [if_neg hjk] at hj ⊢
    rw [if_neg hjk]
    exact hS.1 e hl j hj
theorem wri_h_ok (h : wri_h t u k κt = true) (hS : RC S t) (hu : e = u) : ∃ t', κt t' = true ∧ RC (va_up S.1 e (upd (S.1 e) k v), S.2.1, S.2.2) t' := by
  obtain ⟨h1, h⟩ := x_and h
  have hl : u < 116 := Nat.le_of_ble_eq_true h1
  rw [g8_ok] at h
  have h := frc_ok h
  rw [s8_ok] at h
  subst hu
  refine ⟨_, h, RC_set hl hS (fun j hj => ?_)⟩
  rw [gv_sv (show (4294967296 : Nat) < 8589934592 by decide)] at hj ⊢
  unfold upd
  by_cases hjk : j = k
  · rw [if_pos hjk] at hj
    exact absurd hj (by decide)
  · rw [if_neg hjk] at hj ⊢
    rw [if_neg hjk]
    exact hS.1 e hl j hj
theorem wra_ok (h : wra t u i a κt = true) (hS : RC S t) (hu : e = u) (hx : x = Int32.ofNat i) (hv : v = Int32.ofNat a) : ∃ t', κt t' = true ∧ RC (va_up S.1 e (upd (S.1 e) x.toNatClampNeg v), S.2.1, S.2.2) t' := by
  obtain ⟨h1, h⟩ := x_and h
  rw [n_idx hx (Nat.le_of_ble_eq_true h1)]
  exact wri_ok h hS hu hv
theorem wra_h_ok (h : wra_h t u i κt = true) (hS : RC S t) (hu : e = u) (hx : x = Int32.ofNat i) : ∃ t', κt t' = true ∧ RC (va_up S.1 e (upd (S.1 e) x.toNatClampNeg v), S.2.1, S.2.2) t' := by
  obtain ⟨h1, h⟩ := x_and h
  rw [n_idx hx (Nat.le_of_ble_eq_true h1)]
  exact wri_h_ok h hS hu
theorem wrl_ok (h : wrl t u i a κt = true) (hS : RC S t) (hu : e = u) (hx : x = Int32.ofNat i) (hv : w = Int64.ofNat a) : ∃ t', κt t' = true ∧ RC (S.1, va_up S.2.1 e (vp_updL (S.2.1 e) x.toNatClampNeg w), S.2.2) t' := by
  obtain ⟨h1, h6⟩ := x_and h
  obtain ⟨h3, h7⟩ := x_and h6
  have h4 := Nat.eq_of_beq_eq_true h3
  rw [g8_ok] at h7
  have h8 := frc_ok h7
  rw [s8_ok] at h8
  rw [n_idx hx (Nat.le_of_ble_eq_true h1)]
  subst hu
  subst h4
  have hm : Nat.mod a 18446744073709551616 < 36893488147419103232 := Nat.lt_trans (Nat.mod_lt _ (by decide)) (by decide)
  refine ⟨_, h8, fun w' hw j hj => ?_, fun w' hw j => ?_, fun j hj => ?_, fun j hj => ?_⟩
  · rw [lu8 t (by omega) (by omega), if_neg (by omega)] at hj ⊢
    exact hS.1 w' hw j hj
  · rw [lu8 t (by omega) (by omega), if_neg (by omega)]
    exact hS.2.1 w' hw j
  · rw [lu8 t (by omega) (by omega), if_pos rfl, gvL_svL hm] at hj ⊢
    show va_up S.2.1 11 (vp_updL (S.2.1 11) i w) 11 j = _
    rw [up_at]
    unfold vp_updL
    by_cases hjk : j = i
    · rw [if_pos hjk, if_pos hjk, hv]
      exact (m_mod a).symm
    · rw [if_neg hjk] at hj ⊢
      rw [if_neg hjk]
      exact hS.2.2.1 j hj
  · rw [lu8 t (by omega) (by omega), if_neg (by omega)] at hj ⊢
    show va_up S.2.1 11 (vp_updL (S.2.1 11) i w) 115 j = _
    rw [up_ne (by decide)]
    exact hS.2.2.2 j hj
theorem wrr_ok {r w' : Nat} (h : wrr t u k r κt = true) (hS : RC S t) (hu : e = u) (hw : w' = r) : ∃ t', κt t' = true ∧ RC (S.1, S.2.1, va_up S.2.2 e (va_up (S.2.2 e) k w')) t' := by
  obtain ⟨h0, h6⟩ := x_and h
  obtain ⟨h1, h2⟩ := an_ok h0
  have hl : u < 116 := Nat.le_of_ble_eq_true h1
  have hr : r < 2000 := Nat.le_of_ble_eq_true h2
  rw [g8_ok] at h6
  have h8 := frc_ok h6
  rw [s8_ok] at h8
  have ea : Nat.add 128 u = 128 + u := rfl
  rw [ea] at h8
  subst hu
  subst hw
  have hm : Nat.add w' 1 < 2048 := by show w' + 1 < 2048; omega
  refine ⟨_, h8, fun q hq j hj => ?_, fun q hq j => ?_, fun j hj => ?_, fun j hj => ?_⟩
  · rw [lu8 t (by omega) (by omega), if_neg (by omega)] at hj ⊢
    exact hS.1 q hq j hj
  · rw [lu8 t (by omega) (by omega)]
    show va_up S.2.2 e (va_up (S.2.2 e) k w') q j = _
    by_cases hqe : q = e
    · subst hqe
      rw [if_pos rfl, up_at, gr_sr hm]
      by_cases hjk : j = k
      · subst hjk
        rw [if_pos rfl, up_at]
        rfl
      · rw [if_neg hjk, up_ne hjk]
        exact hS.2.1 q hq j
    · rw [if_neg (by omega), up_ne hqe]
      exact hS.2.1 q hq j
  · rw [lu8 t (by omega) (by omega), if_neg (by omega)] at hj ⊢
    exact hS.2.2.1 j hj
  · rw [lu8 t (by omega) (by omega), if_neg (by omega)] at hj ⊢
    exact hS.2.2.2 j hj
end XC
/-! from a place on units are not used yet -/
def FR (S : cs) (n : Nat) : Prop := ∀ j, n ≤ j → j < NU → fresh S j
def RCV (n : Nat) (S : cs) (t : X8) : Prop := RC S t ∧ FR S n
theorem FR_fr {S : cs} {m j : Nat} (hF : FR S m) (h1 : m ≤ j) (h2 : j < NU) : fresh S j := hF j h1 h2
theorem FR_le {S : cs} {m m' : Nat} (hF : FR S m) (h : m ≤ m') : FR S m' := fun j h1 h2 => hF j (Nat.le_trans h h1) h2
theorem FR_pi {S : cs} {m e k : Nat} {v : Int32} (hF : FR S m) (hl : e < m) : FR (va_up S.1 e (upd (S.1 e) k v), S.2.1, S.2.2) m := fun j h1 h2 => by
  obtain ⟨a1, a2, a3, a4⟩ := hF j h1 h2
  refine ⟨a1, fun q => ?_, a3, a4⟩
  show va_up S.1 e _ j q = 0
  rw [up_ne (by omega)]
  exact a2 q
theorem FR_pr {S : cs} {m m' e k w : Nat} (hF : FR S m) (hl : e < m) (hw : ∀ j, m' ≤ j → j < NU → ¬ w = j) (hm : m ≤ m') : FR (S.1, S.2.1, va_up S.2.2 e (va_up (S.2.2 e) k w)) m' := fun j h1 h2 => by
  obtain ⟨a1, a2, a3, a4⟩ := hF j (Nat.le_trans hm h1) h2
  refine ⟨fun u q => ?_, a2, a3, fun q => ?_⟩
  · show ¬ va_up S.2.2 e (va_up (S.2.2 e) k w) u q = j
    by_cases hu : u = e
    · subst hu
      rw [up_at]
      by_cases hq : q = k
      · subst hq
        rw [up_at]
        exact hw j h1 h2
      · rw [up_ne hq]
        exact a1 u q
    · rw [up_ne hu]
      exact a1 u q
  · show va_up S.2.2 e (va_up (S.2.2 e) k w) j q = NU
    rw [up_ne (by omega)]
    exact a4 q
theorem FR_pi' {S : cs} {m e k : Nat} {v : Int32} (hF : FR S m) (hl : e < m) : FR (c_pi S e k v) m := FR_pi hF hl
theorem FR_pr' {S : cs} {m m' e k w : Nat} (hF : FR S m) (hl : e < m) (hw : ∀ j, m' ≤ j → j < NU → ¬ w = j) (hm : m ≤ m') : FR (c_pr S e k w) m' := FR_pr hF hl hw hm
section XV
variable {S : cs} {t : X8} {u e k a i n : Nat} {κt : X8 → Bool} {x v : Int32}
theorem wri_okV (h : wri t u k a κt = true) (hl : Nat.blt u n = true) (hS : RCV n S t) (hu : e = u) (hv : v = Int32.ofNat a) : ∃ t', κt t' = true ∧ RCV n (va_up S.1 e (upd (S.1 e) k v), S.2.1, S.2.2) t' := by
  obtain ⟨t', h1, h2⟩ := wri_ok h hS.1 hu hv
  exact ⟨t', h1, h2, FR_pi hS.2 (by rw [hu]; exact Nat.le_of_ble_eq_true hl)⟩
theorem wra_okV (h : wra t u i a κt = true) (hl : Nat.blt u n = true) (hS : RCV n S t) (hu : e = u) (hx : x = Int32.ofNat i) (hv : v = Int32.ofNat a) : ∃ t', κt t' = true ∧ RCV n (va_up S.1 e (upd (S.1 e) x.toNatClampNeg v), S.2.1, S.2.2) t' := by
  obtain ⟨t', h1, h2⟩ := wra_ok h hS.1 hu hx hv
  exact ⟨t', h1, h2, FR_pi hS.2 (by rw [hu]; exact Nat.le_of_ble_eq_true hl)⟩
end XV
noncomputable def chkU (n : Nat) (L : ut) : Bool := List.rec (motive := fun _ => Nat → Bool) (fun _ => true) (fun x _ ih n => and (and (Nat.beq (clx n) x.1) (Nat.beq (lnx n) x.2)) (ih (n + 1))) L n
theorem PX_apps {L : ut} : ∀ {U : ut} {n : Nat}, PX U n → chkU n L = true → PX (U ++ L) (n + L.length) := by
  induction L with
  | nil => intro U n hU _; rw [List.append_nil]; exact hU
  | cons x L ih =>
    intro U n hU h
    have h : and (and (Nat.beq (clx n) x.1) (Nat.beq (lnx n) x.2)) (chkU (n + 1) L) = true := h
    obtain ⟨h1, h2⟩ := an_ok h
    have h3 := ih (PX_app (c := x.1) (l := x.2) hU h1) h2
    rw [List.append_assoc] at h3
    have e : n + 1 + L.length = n + (x :: L).length := by simp only [List.length_cons]; omega
    rw [e] at h3
    exact h3
theorem ulen {U : ut} {n k : Nat} (hU : PX U n) : U.length + k = n + k := by rw [hU.1]
theorem ltb {a b : Nat} (h : Nat.blt a b = true) : a < b := Nat.le_of_ble_eq_true h
/-! the reference's known states -/
def LM : Nat := 16777216
def isL (r : Nat) : Bool := Nat.beq (Nat.mod (Nat.shiftRight LM r) 2) 1
def RM (M : ms) (t : X6) : Prop :=
  (∀ k, gv (l6 t 58) k < 4294967296 → M.1 k = Int32.ofNat (gv (l6 t 58) k)) ∧ (∀ r, r < 58 → isL r = false → ∀ k, gv (l6 t r) k < 4294967296 → M.2.1 r k = Int32.ofNat (gv (l6 t r) k)) ∧ ∀ r, r < 58 → isL r = true → ∀ k, gvL (l6 t r) k < 18446744073709551616 → M.2.2 r k = Int64.ofNat (gvL (l6 t r) k)
noncomputable def rfi (t : X6) (k : Nat) (κ : Nat → Bool) : Bool := g6 t 58 fun n => frc (gv n k) fun c => cond (Nat.blt c 4294967296) (κ c) false
noncomputable def rrw (t : X6) (r a : Nat) (κ : Nat → Bool) : Bool := cond (Nat.blt a 2147483648) (g6 t r fun n => frc (gv n a) fun c => cond (Nat.blt c 4294967296) (κ c) false) false
noncomputable def rrl (t : X6) (r a : Nat) (κ : Nat → Bool) : Bool := cond (Nat.blt a 2147483648) (g6 t r fun n => frc (gvL n a) fun c => cond (Nat.blt c 18446744073709551616) (κ c) false) false
noncomputable def wfi (t : X6) (k a : Nat) (κ : X6 → Bool) : Bool := g6 t 58 fun n => frc (sv n k (Nat.mod a 4294967296)) fun n' => s6 t 58 n' κ
noncomputable def wrw (t : X6) (r i a : Nat) (κ : X6 → Bool) : Bool := cond (Nat.blt i 2147483648) (g6 t r fun n => frc (sv n i (Nat.mod a 4294967296)) fun n' => s6 t r n' κ) false
noncomputable def wrw_h (t : X6) (r i : Nat) (κ : X6 → Bool) : Bool := cond (Nat.blt i 2147483648) (g6 t r fun n => frc (sv n i 4294967296) fun n' => s6 t r n' κ) false
noncomputable def wrm (t : X6) (r i a : Nat) (κ : X6 → Bool) : Bool := cond (Nat.blt i 2147483648) (g6 t r fun n => frc (svL n i (Nat.mod a 18446744073709551616)) fun n' => s6 t r n' κ) false
section XM
variable {S : ms} {t : X6} {k a i r : Nat} {κ : Nat → Bool} {κt : X6 → Bool} {x v : Int32} {w : Int64}
theorem rfi_ok (h : rfi t k κ = true) (hS : RM S t) : ∃ v, κ v = true ∧ S.1 k = Int32.ofNat v := by
  unfold rfi at h
  rw [g6_ok] at h
  obtain ⟨h2, h⟩ := x_and (frc_ok h)
  exact ⟨_, h, hS.1 k (Nat.le_of_ble_eq_true h2)⟩
theorem rrw_ok (h : rrw t r a κ = true) (hS : RM S t) (hr : Nat.blt r 58 = true ∧ isL r = false) (hx : x = Int32.ofNat a) : ∃ v, κ v = true ∧ S.2.1 r x.toNatClampNeg = Int32.ofNat v := by
  obtain ⟨h1, h⟩ := x_and h
  rw [n_idx hx (Nat.le_of_ble_eq_true h1)]
  rw [g6_ok] at h
  obtain ⟨h2, h⟩ := x_and (frc_ok h)
  exact ⟨_, h, hS.2.1 r (Nat.le_of_ble_eq_true hr.1) hr.2 a (Nat.le_of_ble_eq_true h2)⟩
theorem rrl_ok (h : rrl t r a κ = true) (hS : RM S t) (hr : Nat.blt r 58 = true ∧ isL r = true) (hx : x = Int32.ofNat a) : ∃ v, κ v = true ∧ S.2.2 r x.toNatClampNeg = Int64.ofNat v := by
  obtain ⟨h1, h⟩ := x_and h
  rw [n_idx hx (Nat.le_of_ble_eq_true h1)]
  rw [g6_ok] at h
  obtain ⟨h2, h⟩ := x_and (frc_ok h)
  exact ⟨_, h, hS.2.2 r (Nat.le_of_ble_eq_true hr.1) hr.2 a (Nat.le_of_ble_eq_true h2)⟩
theorem wfi_ok (h : wfi t k a κt = true) (hS : RM S t) (hv : v = Int32.ofNat a) : ∃ t', κt t' = true ∧ RM (upd S.1 k v, S.2.1, S.2.2) t' := by
  unfold wfi at h
  rw [g6_ok] at h
  have h := frc_ok h
  rw [s6_ok] at h
  have hm : Nat.mod a 4294967296 < 8589934592 := Nat.lt_trans (Nat.mod_lt _ (by decide)) (by decide)
  refine ⟨_, h, fun j hj => ?_, fun q hq hl j hj => ?_, fun q hq hl j hj => ?_⟩
  · rw [lu6 t (by omega) (by omega), if_pos rfl, gv_sv hm] at hj ⊢
    show upd S.1 k v j = _
    unfold upd
    by_cases hjk : j = k
    · rw [if_pos hjk, if_pos hjk, hv]
      exact (n_mod a).symm
    · rw [if_neg hjk] at hj ⊢
      rw [if_neg hjk]
      exact hS.1 j hj
  · rw [lu6 t (by omega) (by omega), if_neg (by omega)] at hj ⊢
    exact hS.2.1 q hq hl j hj
  · rw [lu6 t (by omega) (by omega), if_neg (by omega)] at hj ⊢
    exact hS.2.2 q hq hl j hj
theorem RM_set {m : Nat} (hl : r < 58) (hL : isL r = false) (hS : RM S t) (hv : ∀ j, gv m j < 4294967296 → upd (S.2.1 r) k v j = Int32.ofNat (gv m j)) : RM (S.1, va_up S.2.1 r (upd (S.2.1 r) k v), S.2.2) (u6 t r m) := by
  refine ⟨fun j hj => ?_, fun q hq hl' j hj => ?_, fun q hq hl' j hj => ?_⟩
  · rw [lu6 t (by omega) (by omega), if_neg (by omega)] at hj ⊢
    exact hS.1 j hj
  · rw [lu6 t (by omega) (by omega)] at hj ⊢
    show va_up S.2.1 r (upd (S.2.1 r) k v) q j = _
    by_cases hq' : q = r
    · rw [if_pos hq'] at hj ⊢
      subst hq'
      rw [up_at]
      exact hv j hj
    · rw [if_neg hq'] at hj ⊢
      rw [up_ne hq']
      exact hS.2.1 q hq hl' j hj
  · rw [lu6 t (by omega) (by omega), if_neg (fun q' => by rw [q', hL] at hl'; exact absurd hl' Bool.false_ne_true)] at hj ⊢
    exact hS.2.2 q hq hl' j hj
theorem wrw_ok (h : wrw t r i a κt = true) (hS : RM S t) (hr : Nat.blt r 58 = true ∧ isL r = false) (hx : x = Int32.ofNat i) (hv : v = Int32.ofNat a) : ∃ t', κt t' = true ∧ RM (S.1, va_up S.2.1 r (upd (S.2.1 r) x.toNatClampNeg v), S.2.2) t' := by
  obtain ⟨h1, h⟩ := x_and h
  rw [g6_ok] at h
  have h := frc_ok h
  rw [s6_ok] at h
  rw [n_idx hx (Nat.le_of_ble_eq_true h1)]
  have hl : r < 58 := Nat.le_of_ble_eq_true hr.1
  refine ⟨_, h, RM_set hl hr.2 hS (fun j hj => ?_)⟩
  have hm : Nat.mod a 4294967296 < 8589934592 := Nat.lt_trans (Nat.mod_lt _ (by decide)) (by decide)
  rw [gv_sv hm] at hj ⊢
  unfold upd
  by_cases hjk : j = i
  · rw [if_pos hjk, if_pos hjk, hv]
    exact (n_mod a).symm
  · rw [if_neg hjk] at hj ⊢
    rw [if_neg hjk]
    exact hS.2.1 r hl hr.2 j hj
theorem wrw_h_ok (h : wrw_h t r i κt = true) (hS : RM S t) (hr : Nat.blt r 58 = true ∧ isL r = false) (hx : x = Int32.ofNat i) : ∃ t', κt t' = true ∧ RM (S.1, va_up S.2.1 r (upd (S.2.1 r) x.toNatClampNeg v), S.2.2) t' := by
  obtain ⟨h1, h⟩ := x_and h
  rw [g6_ok] at h
  have h := frc_ok h
  rw [s6_ok] at h
  rw [n_idx hx (Nat.le_of_ble_eq_true h1)]
  have hl : r < 58 := Nat.le_of_ble_eq_true hr.1
  refine ⟨_, h, RM_set hl hr.2 hS (fun j hj => ?_)⟩
  rw [gv_sv (show (4294967296 : Nat) < 8589934592 by decide)] at hj ⊢
  unfold upd
  by_cases hjk : j = i
  · rw [if_pos hjk] at hj
    exact absurd hj (by decide)
  · rw [if_neg hjk] at hj ⊢
    rw [if_neg hjk]
    exact hS.2.1 r hl hr.2 j hj
theorem wrm_ok (h : wrm t r i a κt = true) (hS : RM S t) (hr : Nat.blt r 58 = true ∧ isL r = true) (hx : x = Int32.ofNat i) (hv : w = Int64.ofNat a) : ∃ t', κt t' = true ∧ RM (S.1, S.2.1, va_up S.2.2 r (vp_updL (S.2.2 r) x.toNatClampNeg w)) t' := by
  obtain ⟨h1, h⟩ := x_and h
  rw [g6_ok] at h
  have h := frc_ok h
  rw [s6_ok] at h
  rw [n_idx hx (Nat.le_of_ble_eq_true h1)]
  have hl : r < 58 := Nat.le_of_ble_eq_true hr.1
  have hm : Nat.mod a 18446744073709551616 < 36893488147419103232 := Nat.lt_trans (Nat.mod_lt _ (by decide)) (by decide)
  refine ⟨_, h, fun j hj => ?_, fun q hq hl' j hj => ?_, fun q hq hl' j hj => ?_⟩
  · rw [lu6 t (by omega) (by omega), if_neg (by omega)] at hj ⊢
    exact hS.1 j hj
  · rw [lu6 t (by omega) (by omega), if_neg (fun q' => by rw [q', hr.2] at hl'; exact Bool.noConfusion hl')] at hj ⊢
    exact hS.2.1 q hq hl' j hj
  · rw [lu6 t (by omega) (by omega)] at hj ⊢
    show va_up S.2.2 r (vp_updL (S.2.2 r) i w) q j = _
    by_cases hq' : q = r
    · rw [if_pos hq', gvL_svL hm] at hj ⊢
      subst hq'
      rw [up_at]
      unfold vp_updL
      by_cases hjk : j = i
      · rw [if_pos hjk, if_pos hjk, hv]
        exact (m_mod a).symm
      · rw [if_neg hjk] at hj ⊢
        rw [if_neg hjk]
        exact hS.2.2 q hq hl' j hj
    · rw [if_neg hq'] at hj ⊢
      rw [up_ne hq']
      exact hS.2.2 q hq hl' j hj
end XM
