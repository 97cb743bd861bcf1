/-! the survey's own rows, as number lays them; what show, fill and the rings keep -/
def NUM (ν : Mem) : Prop := (∀ p, p < pcn ν → ν 9 p = sz ν p ∧ ν 10 p = st ν p ∧ (ask ν 0 p = 1 → ∀ w : Nat, w < 3 → ν 11 (5 * p + w) = (w : Int) ∧ ν 12 (5 * p + w) = (w : Int)) ∧ (ask ν 0 p ≠ 1 → ν 11 (5 * p) = ν (5 + 2 * 0) p)) ∧ ν 4 11 = pdI ν (pcn ν)
theorem AG.sz9 {μ ν : Mem} (h : AG μ ν 0) {p : Nat} (hp : p < 6) : sz ν p = sz μ p := by
  unfold sz
  rw [h.ask9 hp]
theorem AG.pdI9 {μ ν : Mem} (hW : WF μ) (h : AG μ ν 0) : ∀ i : Nat, i ≤ pcn μ → pdI ν i = pdI μ i
  | 0, _ => rfl
  | i + 1, hi => by
    have h6 := hW.pc6
    have hab : AB μ ν := h.1
    rw [pdI_s, pdI_s, AG.pdI9 hW h i (by omega), hab.pcn9, h.sz9 (by omega)]
theorem NB_NUM {μ ν : Mem} (hW : WF μ) (h : NB μ ν) : NUM ν := by
  have h6 := hW.pc6
  have hag := NBl_AG h
  have hab : AB μ ν := hag.1
  obtain ⟨h1, h2, h3, h4, h5, h7⟩ := h
  refine ⟨fun p hp => ?_, by rw [h5, hab.pcn9, hag.pdI9 hW _ (Nat.le_refl _)]⟩
  rw [hab.pcn9] at hp
  obtain ⟨g1, g2, g3, g4⟩ := h7 p hp (by omega)
  refine ⟨by rw [g1, hag.sz9 (by omega)], ?_, fun a => g3 (by rw [← hag.ask9 (by omega)]; exact a), fun a => ?_⟩
  · rw [g2]; unfold st; rw [hab.pcn9, hag.pdI9 hW _ (by omega)]
  · rw [hag.2.1]; exact g4 (by rw [← hag.ask9 (by omega)]; exact a)
/-- the base of the survey: numbered, three ways each -/
def SV (β : Mem) : Prop := WF β ∧ LW β ∧ PL β 0 ∧ NUM β
/-- the survey's plays stand as in β -/
def AS (β ξ : Mem) : Prop := (∀ c, (c ≤ 2 ∨ c = 5 ∨ c = 6 ∨ (9 ≤ c ∧ c ≤ 12) ∨ 21 ≤ c) → ξ c = β c) ∧ ξ 4 11 = β 4 11
theorem AS.AB9 {β ξ : Mem} (h : AS β ξ) : AB β ξ := fun c hc => h.1 c (by omega)
theorem AS_rf {β : Mem} : AS β β := ⟨fun _ _ => rfl, rfl⟩
theorem wyk_rng {β : Mem} (hS : SV β) (k : Int) {p : Nat} (hp : p < pcn β) : 0 ≤ wyk β k p ∧ wyk β k p ≤ 2 := by
  have h1 := hS.2.1 p hp
  have h2 := dg_rng β k p
  have h3 := sz_rng β p
  unfold wyk
  split <;> omega
theorem show_way {β ξ : Mem} {k : Int} {p : Nat} (hS : SV β) (hA : AS β ξ) (hp : p < pcn β) : 0 ≤ k / ξ 10 p % ξ 9 p ∧ k / ξ 10 p % ξ 9 p < 3 ∧ 1 ≤ ξ 10 p ∧ ξ 10 p ≤ 729 ∧ 1 ≤ ξ 9 p ∧ ξ 9 p ≤ 3 ∧ ξ 11 (((p : Int) * 5) + (k / ξ 10 p % ξ 9 p)).toNat = wyk β k p := by
  have h6 := hS.1.pc6
  obtain ⟨g1, g2, g3, g4⟩ := hS.2.2.2.1 p hp
  rw [hA.1 9 (by omega), hA.1 10 (by omega), hA.1 11 (by omega), g1, g2]
  have h2 := dg_rng β k p
  have h3 := sz_rng β p
  have h4 := pdI_rng6 β (i := pcn β - 1 - p) (by omega)
  have e : k / st β p % sz β p = dg β k p := rfl
  have e4 : st β p = pdI β (pcn β - 1 - p) := rfl
  rw [e]
  refine ⟨h2.1, by omega, by omega, by omega, by omega, by omega, ?_⟩
  unfold wyk
  by_cases a : ask β 0 p = 1
  · rw [if_pos a]
    obtain ⟨w, hw⟩ := nat_of h2.1
    rw [hw, show (((p : Int) * 5) + (w : Int)).toNat = 5 * p + w by omega]
    exact (g3 a w (by omega)).1
  · have hz : sz β p = 1 := by unfold sz; rw [if_neg a]
    rw [if_neg a, show (((p : Int) * 5) + dg β k p).toNat = 5 * p by omega]
    exact g4 a
def SHl (β μ ξ : Mem) (k : Int) (p : Nat) : Prop := (∀ c, c ≠ 7 → c ≠ 8 → ξ c = μ c) ∧ (∀ q, q < p → ξ (5 + 2 * 1) q = wyk β k q) ∧ PL ξ 1
theorem SHl_AS {β μ ξ : Mem} {k : Int} {p : Nat} (hA : AS β μ) (h : SHl β μ ξ k p) : AS β ξ := ⟨fun c hc => by rw [h.1 c (by omega) (by omega)]; exact hA.1 c hc, by rw [h.1 4 (by omega) (by omega)]; exact hA.2⟩
theorem SHl_skip {β μ ξ : Mem} {k : Int} {p : Nat} (h : SHl β μ ξ k p) (e : ξ (5 + 2 * 1) p = wyk β k p) : SHl β μ ξ k (p + 1) := ⟨h.1, fun q hq => by rcases (show q < p ∨ q = p by omega) with g | g; exact h.2.1 q g; rw [g]; exact e, h.2.2⟩
theorem SHl_take {β μ ξ ξ' : Mem} {k : Int} {p : Nat} (hS : SV β) (hA : AS β μ) (h : SHl β μ ξ k p) (hp : p < pcn β) (hT : TK ξ ξ' 1 p (wyk β k p)) : SHl β μ ξ' k (p + 1) := by
  have hAx := SHl_AS hA h
  have hWx := hAx.AB9.WF9 hS.1
  have hw := wyk_rng hS k hp
  refine ⟨fun c c1 c2 => by rw [hT.1 c c1 c2]; exact h.1 c c1 c2, fun q hq => ?_, hT.PL9 (by omega) hWx (by rw [hAx.AB9.pcn9]; exact hp) (by omega) h.2.2⟩
  by_cases e : q = p
  · subst e; exact hT.2.2.1
  · rw [hT.2.1 q e]; exact h.2.1 q (by omega)
/-- behind fill -/
def FIl (β μ ξ : Mem) (n : Nat) : Prop := AS β ξ ∧ PL ξ 1 ∧ ξ 4 12 = pdI β (pcn β) ∧ (∀ k : Nat, k < n → ∃ ζ, SHP β ζ (k : Int) ∧ ξ 14 k = mvs ζ 1) ∧ (∀ c, c ≠ 4 → c ≠ 7 → c ≠ 8 → c ≠ 13 → c ≠ 14 → ξ c = μ c)
theorem FIl_s {β μ ξ ξ1 ξ2 : Mem} {n : Nat} {t : Int} (hS : SV β) (h : FIl β μ ξ n) (hH : SHl β ξ ξ1 (n : Int) (pcn β)) (e2 : ξ2 = upM ξ1 13 n t) : FIl β μ (upM ξ2 14 n (mvs ξ2 1)) (n + 1) := by
  obtain ⟨h1, h2, h3, h4, h5⟩ := h
  have hA1 := SHl_AS h1 hH
  have o2 : ∀ c, c ≠ 13 → ξ2 c = ξ1 c := fun c hc => by rw [e2, upM_off hc]
  have hA2 : AS β ξ2 := ⟨fun c hc => by rw [o2 c (by omega)]; exact hA1.1 c hc, by rw [o2 4 (by omega)]; exact hA1.2⟩
  have hab : AG ξ1 ξ2 1 := ⟨fun c hc => o2 c (by omega), o2 _ (by omega), o2 _ (by omega), by rw [o2 (2 + 1) (by omega)]⟩
  have hL2 : PL ξ2 1 := hab.PL9 (hA1.AB9.WF9 hS.1) hH.2.2
  have hSHP : SHP β ξ2 (n : Int) := ⟨hA2.AB9, fun q hq => by rw [o2 (5 + 2 * 1) (by omega)]; exact hH.2.1 q hq, hL2⟩
  have o3 : ∀ c, c ≠ 14 → upM ξ2 14 n (mvs ξ2 1) c = ξ2 c := fun c hc => upM_off hc
  have hab3 : AG ξ2 (upM ξ2 14 n (mvs ξ2 1)) 1 := ⟨fun c hc => o3 c (by omega), o3 _ (by omega), o3 _ (by omega), by rw [o3 (2 + 1) (by omega)]⟩
  refine ⟨⟨fun c hc => by rw [o3 c (by omega)]; exact hA2.1 c hc, by rw [o3 4 (by omega)]; exact hA2.2⟩, hab3.PL9 (hA2.AB9.WF9 hS.1) hL2, by rw [o3 4 (by omega), o2 4 (by omega), hH.1 4 (by omega) (by omega)]; exact h3, fun k hk => ?_, fun c c1 c2 c3 c4 c5 => by rw [o3 c c5, o2 c c4, hH.1 c c2 c3]; exact h5 c c1 c2 c3 c4 c5⟩
  by_cases e : k = n
  · subst e
    exact ⟨ξ2, hSHP, upM_self⟩
  · obtain ⟨ζ, z1, z2⟩ := h4 k (by omega)
    exact ⟨ζ, z1, by rw [upM_ne (Or.inr e), o2 14 (by omega), hH.1 14 (by omega) (by omega)]; exact z2⟩
/-! the rings: the plays as a graph that goes down -/
def GR (μ : Mem) (n : Nat) (rk : Nat → Int) : Prop := n ≤ 1000 ∧ μ 4 12 = (n : Int) ∧ (∀ k, k < n → 0 ≤ μ 14 k ∧ μ 14 k ≤ 1073741824) ∧ ∀ k j : Nat, k < n → j < 30 → tz (μ 14 k) j = 1 →
  (1 ≤ μ 10 (j / 5) ∧ μ 10 (j / 5) ≤ 1000) ∧ (1 ≤ μ 9 (j / 5) ∧ μ 9 (j / 5) ≤ 10) ∧ (0 ≤ μ 12 j ∧ μ 12 j ≤ 5) ∧ ∃ k' : Nat, k' < n ∧ (k : Int) + (μ 12 j - ((k : Int) / μ 10 (j / 5) % μ 9 (j / 5))) * μ 10 (j / 5) = (k' : Int) ∧ rk k' < rk k
def AD (μ ν : Mem) : Prop := ∀ c, ¬ (15 ≤ c ∧ c ≤ 18) → ν c = μ c
theorem AD.GR9 {μ ν : Mem} {n : Nat} {rk : Nat → Int} (h : AD μ ν) (hG : GR μ n rk) : GR ν n rk := by
  obtain ⟨h1, h2, h3, h4⟩ := hG
  refine ⟨h1, by rw [h 4 (by omega)]; exact h2, fun k hk => by rw [h 14 (by omega)]; exact h3 k hk, fun k j hk hj ht => ?_⟩
  rw [h 14 (by omega)] at ht
  rw [h 9 (by omega), h 10 (by omega), h 12 (by omega)]
  exact h4 k j hk hj ht
def MK (ν : Mem) (n : Nat) : Prop := ∀ k, k < n → ν 15 k = 0 ∨ ν 15 k = 2
def un (ν : Mem) (k : Nat) : Int := if ν 15 k = 0 then 1 else 0
def wt (ν : Mem) (k : Nat) : Int := if ν 15 k = 0 then 32 else if ν 15 k = 1 then 31 - ν 17 k else 0
/-- depth first: s steps made, t the top of the stack -/
def DI (μ ν : Mem) (n : Nat) (rk : Nat → Int) (s : Nat) (t : Int) : Prop := AD μ ν ∧ -1 ≤ t ∧ (∀ i : Nat, (i : Int) ≤ t → ∃ k : Nat, k < n ∧ ν 18 i = (k : Int) ∧ ν 15 k = 1) ∧ (∀ i j : Nat, i < j → (j : Int) ≤ t → rk (ν 18 j).toNat < rk (ν 18 i).toNat) ∧
  (∀ k, k < n → ν 15 k = 0 ∨ ν 15 k = 2 ∨ (ν 15 k = 1 ∧ ∃ i : Nat, (i : Int) ≤ t ∧ ν 18 i = (k : Int))) ∧ (∀ k, k < n → ν 15 k = 1 → 0 ≤ ν 17 k ∧ ν 17 k ≤ 30) ∧ t + 1 + sm n (un ν) ≤ (n : Int) ∧ (s : Int) + sm n (wt ν) ≤ 32 * (n : Int)
theorem un_rng (ν : Mem) (n : Nat) : 0 ≤ sm n (un ν) ∧ sm n (un ν) ≤ (n : Int) := by
  have h := sm_rng (un ν) 1 n (fun i _ => by unfold un; split <;> omega)
  omega
theorem wt_rng {ν : Mem} {n : Nat} (h : ∀ k, k < n → ν 15 k = 1 → 0 ≤ ν 17 k ∧ ν 17 k ≤ 30) : 0 ≤ sm n (wt ν) ∧ sm n (wt ν) ≤ (n : Int) * 32 := by
  refine sm_rng (wt ν) 32 n (fun i hi => ?_)
  unfold wt
  split
  · omega
  · split
    · have := h i hi (by assumption); omega
    · omega
/-- an entry's memory -/
def ENT (μ ν : Mem) (k t : Nat) : Prop := ν = upM (upM (upM (upM μ 18 t (k : Int)) 15 k 1) 17 k 0) 16 k 0
theorem ENT_at {μ ν : Mem} {k t : Nat} (h : ENT μ ν k t) : AD μ ν ∧ ν 15 k = 1 ∧ (∀ j, j ≠ k → ν 15 j = μ 15 j) ∧ ν 17 k = 0 ∧ (∀ j, j ≠ k → ν 17 j = μ 17 j) ∧ ν 18 t = (k : Int) ∧ ∀ j, j ≠ t → ν 18 j = μ 18 j := by
  unfold ENT at h
  subst h
  refine ⟨fun c hc => ?_, ?_, fun j hj => ?_, ?_, fun j hj => ?_, ?_, fun j hj => ?_⟩
  · rw [upM_off (by omega), upM_off (by omega), upM_off (by omega), upM_off (by omega)]
  · rw [upM_ne (by omega), upM_ne (by omega), upM_self]
  · rw [upM_ne (by omega), upM_ne (by omega), upM_ne (Or.inr hj), upM_ne (by omega)]
  · rw [upM_ne (by omega), upM_self]
  · rw [upM_ne (by omega), upM_ne (Or.inr hj), upM_ne (by omega), upM_ne (by omega)]
  · rw [upM_ne (by omega), upM_ne (by omega), upM_ne (by omega), upM_self]
  · rw [upM_ne (by omega), upM_ne (by omega), upM_ne (by omega), upM_ne (Or.inr hj)]
theorem sm_one {f g : Nat → Int} {n p : Nat} (hp : p < n) (h : ∀ i, i ≠ p → g i = f i) : sm n g = sm n f + g p - f p := by
  have := sm_upd n h
  rw [if_pos hp] at this
  omega
theorem DI_start {μ ν : Mem} {n k : Nat} {rk : Nat → Int} (hM : MK μ n) (hk : k < n) (h0 : μ 15 k = 0) (hE : ENT μ ν k 0) : DI μ ν n rk 0 0 := by
  obtain ⟨e1, e2, e3, e4, e5, e6, e7⟩ := ENT_at hE
  have w6 : ∀ j, j < n → ν 15 j = 1 → 0 ≤ ν 17 j ∧ ν 17 j ≤ 30 := fun j hj h1 => by
    by_cases e : j = k
    · subst e; rw [e4]; omega
    · rw [e3 j e] at h1
      have := hM j hj
      omega
  refine ⟨e1, by omega, fun i hi => ⟨k, hk, by rw [show i = 0 by omega]; exact e6, e2⟩, fun i j h1 h2 => by omega, fun j hj => ?_, w6, ?_, ?_⟩
  · by_cases e : j = k
    · subst e; exact Or.inr (Or.inr ⟨e2, 0, by omega, e6⟩)
    · rw [e3 j e]
      rcases hM j hj with h | h
      · exact Or.inl h
      · exact Or.inr (Or.inl h)
  · have h1 := un_rng μ n
    have h2 := sm_one (f := un μ) (g := un ν) hk (fun i hi => by unfold un; rw [e3 i hi])
    have h3 : un ν k = 0 := by unfold un; rw [e2]; rfl
    have h4 : un μ k = 1 := by unfold un; rw [if_pos h0]
    omega
  · have := wt_rng w6
    omega
theorem DI_top {μ ν : Mem} {n s : Nat} {rk : Nat → Int} {t : Int} (h : DI μ ν n rk s t) (ht : 0 ≤ t) : t < (n : Int) ∧ (s : Int) ≤ 32 * (n : Int) ∧ ∃ k : Nat, k < n ∧ ν 18 t.toNat = (k : Int) ∧ ν 15 k = 1 ∧ 0 ≤ ν 17 k ∧ ν 17 k ≤ 30 := by
  obtain ⟨h1, h2, h3, h4, h5, h6, h7, h8⟩ := h
  have hu := un_rng ν n
  have hw := wt_rng h6
  obtain ⟨k, k1, k2, k3⟩ := h3 t.toNat (by omega)
  exact ⟨by omega, by omega, k, k1, k2, k3, h6 k k1 k3⟩
theorem DI_s {μ ν : Mem} {n s : Nat} {rk : Nat → Int} {t : Int} (h : DI μ ν n rk s t) : (s : Int) ≤ 32 * (n : Int) := by
  have hw := wt_rng h.2.2.2.2.2.1
  have := h.2.2.2.2.2.2.2
  omega
/-- the top is finished -/
theorem DI_pop {μ ν ν' : Mem} {n s k : Nat} {rk : Nat → Int} {t : Int} (h : DI μ ν n rk s t) (ht : 0 ≤ t) (hk : k < n) (e : ν 18 t.toNat = (k : Int)) (e1 : ν 15 k = 1) (e30 : 30 ≤ ν 17 k) (hn : ν' = upM ν 15 k 2) : DI μ ν' n rk (s + 1) (t + -1) := by
  obtain ⟨h1, h2, h3, h4, h5, h6, h7, h8⟩ := h
  have o15 : ∀ j, j ≠ k → ν' 15 j = ν 15 j := fun j hj => by rw [hn, upM_ne (Or.inr hj)]
  have o15k : ν' 15 k = 2 := by rw [hn, upM_self]
  have oc : ∀ c, c ≠ 15 → ν' c = ν c := fun c hc => by rw [hn, upM_off hc]
  have o17 := oc 17 (by omega)
  have o18 := oc 18 (by omega)
  have hx := h6 k hk e1
  refine ⟨fun c hc => by rw [oc c (by omega)]; exact h1 c hc, by omega, fun i hi => ?_, fun i j hij hj => ?_, fun j hj => ?_, fun j hj hj1 => ?_, ?_, ?_⟩
  · obtain ⟨q, q1, q2, q3⟩ := h3 i (by omega)
    refine ⟨q, q1, by rw [o18]; exact q2, ?_⟩
    have hr := h4 i t.toNat (by omega) (by omega)
    have hne : q ≠ k := fun z => by
      subst z
      rw [e, q2] at hr
      omega
    rw [o15 q hne]; exact q3
  · rw [o18]; exact h4 i j hij (by omega)
  · by_cases g : j = k
    · subst g; exact Or.inr (Or.inl o15k)
    · rw [o15 j g, o18]
      rcases h5 j hj with q | q | ⟨q, i, i1, i2⟩
      · exact Or.inl q
      · exact Or.inr (Or.inl q)
      · refine Or.inr (Or.inr ⟨q, i, ?_, i2⟩)
        rcases (show (i : Int) ≤ t - 1 ∨ i = t.toNat by omega) with z | z
        · omega
        · subst z
          rw [e] at i2
          omega
  · rw [o17]
    by_cases g : j = k
    · subst g; omega
    · rw [o15 j g] at hj1; exact h6 j hj hj1
  · have h9 := sm_one (f := un ν) (g := un ν') hk (fun i hi => by unfold un; rw [o15 i hi])
    have h10 : un ν' k = 0 := by unfold un; rw [o15k]; rfl
    have h11 : un ν k = 0 := by unfold un; rw [e1]; rfl
    omega
  · have h9 := sm_one (f := wt ν) (g := wt ν') hk (fun i hi => by unfold wt; rw [o15 i hi, o17])
    have h10 : wt ν' k = 0 := by unfold wt; rw [o15k]; rfl
    have h11 : wt ν k = 31 - ν 17 k := by unfold wt; rw [if_neg (by omega), if_pos e1]
    omega
/-- the top tries one move more -/
theorem DI_try {μ ν ν' : Mem} {n s k : Nat} {rk : Nat → Int} {t : Int} (h : DI μ ν n rk s t) (hk : k < n) (e1 : ν 15 k = 1) (e30 : ν 17 k < 30) (hn : ν' = upM ν 17 k (ν 17 k + 1)) : DI μ ν' n rk (s + 1) t := by
  obtain ⟨h1, h2, h3, h4, h5, h6, h7, h8⟩ := h
  have oc : ∀ c, c ≠ 17 → ν' c = ν c := fun c hc => by rw [hn, upM_off hc]
  have o17 : ∀ j, j ≠ k → ν' 17 j = ν 17 j := fun j hj => by rw [hn, upM_ne (Or.inr hj)]
  have o17k : ν' 17 k = ν 17 k + 1 := by rw [hn, upM_self]
  have o15 := oc 15 (by omega)
  have o18 := oc 18 (by omega)
  have hx := h6 k hk e1
  refine ⟨fun c hc => by rw [oc c (by omega)]; exact h1 c hc, h2, fun i hi => by rw [o18, o15]; exact h3 i hi, fun i j hij hj => by rw [o18]; exact h4 i j hij hj, fun j hj => by rw [o15, o18]; exact h5 j hj, fun j hj hj1 => ?_, ?_, ?_⟩
  · rw [o15] at hj1
    by_cases g : j = k
    · subst g; rw [o17k]; omega
    · rw [o17 j g]; exact h6 j hj hj1
  · have e : sm n (un ν') = sm n (un ν) := sm_congr n (fun i _ => by unfold un; rw [o15])
    omega
  · have h9 := sm_one (f := wt ν) (g := wt ν') hk (fun i hi => by unfold wt; rw [o15, o17 i hi])
    have h10 : wt ν' k = 31 - (ν 17 k + 1) := by unfold wt; rw [o15, if_neg (by omega), if_pos e1, o17k]
    have h11 : wt ν k = 31 - ν 17 k := by unfold wt; rw [if_neg (by omega), if_pos e1]
    omega
theorem DI_len {μ ν : Mem} {n s k : Nat} {rk : Nat → Int} {t x : Int} (h : DI μ ν n rk s t) : DI μ (upM ν 16 k x) n rk s t := by
  obtain ⟨h1, h2, h3, h4, h5, h6, h7, h8⟩ := h
  have oc : ∀ c, c ≠ 16 → upM ν 16 k x c = ν c := fun c hc => upM_off hc
  have o15 := oc 15 (by omega)
  have o17 := oc 17 (by omega)
  have o18 := oc 18 (by omega)
  refine ⟨fun c hc => by rw [oc c (by omega)]; exact h1 c hc, h2, fun i hi => by rw [o18, o15]; exact h3 i hi, fun i j hij hj => by rw [o18]; exact h4 i j hij hj, fun j hj => by rw [o15, o18]; exact h5 j hj, fun j hj hj1 => by rw [o15] at hj1; rw [o17]; exact h6 j hj hj1, ?_, ?_⟩
  · have e : sm n (un (upM ν 16 k x)) = sm n (un ν) := sm_congr n (fun i _ => by unfold un; rw [o15])
    omega
  · have e : sm n (wt (upM ν 16 k x)) = sm n (wt ν) := sm_congr n (fun i _ => by unfold wt; rw [o15, o17])
    omega
/-- a play below the top isn't on the way -/
theorem DI_below {μ ν : Mem} {n s k k' : Nat} {rk : Nat → Int} {t : Int} (h : DI μ ν n rk s t) (ht : 0 ≤ t) (e : ν 18 t.toNat = (k : Int)) (hk' : k' < n) (hr : rk k' < rk k) : ν 15 k' = 0 ∨ ν 15 k' = 2 := by
  rcases h.2.2.2.2.1 k' hk' with q | q | ⟨q, i, i1, i2⟩
  · exact Or.inl q
  · exact Or.inr q
  · exfalso
    have e2 : rk (ν 18 i).toNat = rk k' := by rw [i2, Int.toNat_natCast]
    have e3 : rk (ν 18 t.toNat).toNat = rk k := by rw [e, Int.toNat_natCast]
    rcases (show i < t.toNat ∨ i = t.toNat by omega) with z | z
    · have := h.2.2.2.1 i t.toNat z (by omega)
      omega
    · rw [z] at e2
      omega
theorem DI_room {μ ν : Mem} {n s k' : Nat} {rk : Nat → Int} {t : Int} (h : DI μ ν n rk s t) (hk' : k' < n) (h0 : ν 15 k' = 0) : t + 2 ≤ (n : Int) := by
  have h7 := h.2.2.2.2.2.2.1
  obtain ⟨f0, hf0⟩ : ∃ f0 : Nat → Int, f0 = fun i => if i = k' then 0 else un ν i := ⟨_, rfl⟩
  have g := sm_one (f := un ν) (g := f0) hk' (fun i hi => by rw [hf0]; exact if_neg hi)
  have g2 := sm_rng f0 1 n (fun i _ => by rw [hf0]; dsimp only; unfold un; split <;> (try split) <;> omega)
  have e : un ν k' = 1 := if_pos h0
  have e2 : f0 k' = 0 := by rw [hf0]; exact if_pos rfl
  rw [e, e2] at g
  omega
theorem DI_enter {μ ν ν' : Mem} {n s k k' : Nat} {rk : Nat → Int} {t : Int} (h : DI μ ν n rk s t) (ht : 0 ≤ t) (e : ν 18 t.toNat = (k : Int)) (hk' : k' < n) (hr : rk k' < rk k) (h0 : ν 15 k' = 0) (hE : ENT ν ν' k' (t + 1).toNat) : DI μ ν' n rk s (t + 1) := by
  obtain ⟨h1, h2, h3, h4, h5, h6, h7, h8⟩ := h
  obtain ⟨e1, e2, e3, e4, e5, e6, e7⟩ := ENT_at hE
  have e3' : rk (ν 18 t.toNat).toNat = rk k := by rw [e, Int.toNat_natCast]
  have o18 : ∀ i : Nat, (i : Int) ≤ t → ν' 18 i = ν 18 i := fun i hi => e7 i (by omega)
  refine ⟨fun c hc => by rw [e1 c hc]; exact h1 c hc, by omega, fun i hi => ?_, fun i j hij hj => ?_, fun j hj => ?_, fun j hj hj1 => ?_, ?_, ?_⟩
  · rcases (show (i : Int) ≤ t ∨ i = (t + 1).toNat by omega) with z | z
    · obtain ⟨q, q1, q2, q3⟩ := h3 i z
      refine ⟨q, q1, by rw [o18 i z]; exact q2, ?_⟩
      rw [e3 q (fun g => by subst g; omega)]
      exact q3
    · subst z; exact ⟨k', hk', e6, e2⟩
  · rcases (show (j : Int) ≤ t ∨ j = (t + 1).toNat by omega) with z | z
    · rw [o18 j z, o18 i (by omega)]; exact h4 i j hij z
    · subst z
      rw [e6, Int.toNat_natCast, o18 i (by omega)]
      rcases (show i < t.toNat ∨ i = t.toNat by omega) with g | g
      · have := h4 i t.toNat g (by omega)
        omega
      · subst g; omega
  · by_cases g : j = k'
    · subst g; exact Or.inr (Or.inr ⟨e2, (t + 1).toNat, by omega, e6⟩)
    · rw [e3 j g]
      rcases h5 j hj with q | q | ⟨q, i, i1, i2⟩
      · exact Or.inl q
      · exact Or.inr (Or.inl q)
      · exact Or.inr (Or.inr ⟨q, i, by omega, by rw [o18 i i1]; exact i2⟩)
  · by_cases g : j = k'
    · subst g; rw [e4]; omega
    · rw [e5 j g]; rw [e3 j g] at hj1; exact h6 j hj hj1
  · have h9 := sm_one (f := un ν) (g := un ν') hk' (fun i hi => by unfold un; rw [e3 i hi])
    have h10 : un ν' k' = 0 := by unfold un; rw [e2]; rfl
    have h11 : un ν k' = 1 := by unfold un; rw [if_pos h0]
    omega
  · have h9 := sm_one (f := wt ν) (g := wt ν') hk' (fun i hi => by unfold wt; rw [e3 i hi, e5 i hi])
    have h10 : wt ν' k' = 31 := by unfold wt; rw [e2, if_neg (by omega), if_pos rfl, e4]; rfl
    have h11 : wt ν k' = 32 := by unfold wt; rw [if_pos h0]
    omega
theorem DI_end {μ ν : Mem} {n s : Nat} {rk : Nat → Int} {t : Int} (h : DI μ ν n rk s t) (ht : t < 0) : AD μ ν ∧ MK ν n := by
  refine ⟨h.1, fun k hk => ?_⟩
  rcases h.2.2.2.2.1 k hk with q | q | ⟨q, i, i1, i2⟩
  · exact Or.inl q
  · exact Or.inr q
  · omega
def carF (μ : Mem) (k : Nat) : Int := if μ 14 k = 0 then 1 else 0
theorem car_pos {μ : Mem} {n k : Nat} (hk : k < n) (h : μ 14 k = 0) : 0 < sm n (carF μ) := by
  have h1 : ∀ m : Nat, 0 ≤ sm m (carF μ) := fun m => (sm_rng (carF μ) 1 m (fun i _ => by unfold carF; split <;> omega)).1
  have h2 : ∀ m : Nat, k < m → 0 < sm m (carF μ) := fun m => by
    induction m with
    | zero => intro h; omega
    | succ m ih =>
      intro hm
      rw [sm_s]
      have h3 : 0 ≤ carF μ m := by unfold carF; split <;> omega
      by_cases e : k = m
      · subst e
        have := h1 k
        have h4 : carF μ k = 1 := by unfold carF; rw [if_pos h]
        omega
      · have := ih (by omega)
        omega
  exact h2 n hk
/-- behind fill, with even players: some play is at rest, and the changes go down -/
theorem even_ok {β μ ν : Mem} {m : Int} (hS : SV β) (hE : EV β m) (h : FIl β μ ν (pdI β (pcn β)).toNat) : GR ν (pdI β (pcn β)).toNat (fun k => phi β m (wyk β (k : Int))) ∧ 0 < sm (pdI β (pcn β)).toNat (carF ν) := by
  obtain ⟨h1, h2, h3, h4, h5⟩ := h
  have h6 := hS.1.pc6
  have hpd := pdI_rng6 β (i := pcn β) h6.1
  have hn : ((pdI β (pcn β)).toNat : Int) = pdI β (pcn β) := by omega
  refine ⟨⟨by omega, by rw [h3]; omega, fun k hk => ?_, fun k j hk hj ht => ?_⟩, ?_⟩
  · obtain ⟨ζ, z1, z2⟩ := h4 k hk
    rw [z2]
    have hr := mv_rng ζ 1 (5 * pcn ζ)
    have h30 := p2_le (5 * pcn ζ) (by rw [z1.1.pcn9]; omega)
    unfold mvs
    omega
  · obtain ⟨ζ, z1, z2⟩ := h4 k hk
    rw [z2] at ht
    have hpz := z1.1.pcn9
    have hj5 : j < 5 * pcn β := by
      rcases Nat.lt_or_ge j (5 * pcn β) with q | q
      · exact q
      · exfalso
        unfold mvs at ht
        rw [mv_bitn (5 * pcn ζ) (by rw [hpz]; exact q)] at ht
        omega
    have hnz : mvT ζ 1 j ≠ 0 := fun q => by
      unfold mvs at ht
      rw [mv_bit0 q] at ht
      omega
    obtain ⟨g1, g2, g3, g4, g5⟩ := mv_down hS.1 hS.2.1 hE z1 (by omega) hj5 hnz
    obtain ⟨u1, u2, u3, u4⟩ := hS.2.2.2.1 (j / 5) g1
    have u5 := u3 g2 (j % 5) g3
    rw [show 5 * (j / 5) + j % 5 = j by omega] at u5
    have hsz := sz_rng β (j / 5)
    have hst := pdI_rng6 β (i := pcn β - 1 - j / 5) (by omega)
    have est : st β (j / 5) = pdI β (pcn β - 1 - j / 5) := rfl
    rw [h1.1 9 (by omega), h1.1 10 (by omega), h1.1 12 (by omega), u1, u2, u5.2]
    refine ⟨by omega, by omega, by omega, (((k : Int) + (((j % 5 : Nat) : Int) - dg β (k : Int) (j / 5)) * st β (j / 5))).toNat, by omega, ?_, ?_⟩
    · show (k : Int) + (((j % 5 : Nat) : Int) - dg β (k : Int) (j / 5)) * st β (j / 5) = _
      omega
    · show phi β m (wyk β ((((k : Int) + (((j % 5 : Nat) : Int) - dg β (k : Int) (j / 5)) * st β (j / 5)).toNat : Nat) : Int)) < phi β m (wyk β (k : Int))
      rw [show ((((k : Int) + (((j % 5 : Nat) : Int) - dg β (k : Int) (j / 5)) * st β (j / 5)).toNat : Nat) : Int) = (k : Int) + (((j % 5 : Nat) : Int) - dg β (k : Int) (j / 5)) * st β (j / 5) by omega]
      exact g5
  · obtain ⟨k, k1, k2⟩ := least_ex (fun k => phi β m (wyk β (k : Int))) (pdI β (pcn β)).toNat (by omega)
    refine car_pos k1 ?_
    obtain ⟨ζ, z1, z2⟩ := h4 k k1
    have hpz := z1.1.pcn9
    rw [z2]
    by_cases e : mvs ζ 1 = 0
    · exact e
    · exfalso
      obtain ⟨j, j1, j2⟩ := mv_some (5 * pcn ζ) e
      rw [hpz] at j1
      obtain ⟨g1, g2, g3, g4, g5⟩ := mv_down hS.1 hS.2.1 hE z1 (by omega) j1 j2
      have := k2 ((k : Int) + (((j % 5 : Nat) : Int) - dg β (k : Int) (j / 5)) * st β (j / 5)).toNat (by omega)
      try dsimp only at this
      rw [show ((((k : Int) + (((j % 5 : Nat) : Int) - dg β (k : Int) (j / 5)) * st β (j / 5)).toNat : Nat) : Int) = (k : Int) + (((j % 5 : Nat) : Int) - dg β (k : Int) (j / 5)) * st β (j / 5) by omega] at this
      omega
theorem ADM_of1 {μ μ1 μ2 μ3 : Mem} {p s : Nat} {w : Int} (hs0 : μ 9 p = (s : Int)) (hw : 0 ≤ w) (e1 : μ1 = upM μ 11 (p * 5 + s) w) (e2 : μ2 = upM μ1 12 (((p : Int) * 5) + w).toNat (s : Int)) (e3 : μ3 = upM μ2 9 p ((s : Int) + 1)) : ADM μ μ3 p w := by
  have i1 : p * 5 + s = 5 * p + (μ 9 p).toNat := by omega
  have i2 : (((p : Int) * 5) + w).toNat = 5 * p + w.toNat := by omega
  rw [i1] at e1
  rw [i2] at e2
  refine ⟨fun c c1 c2 c3 => by rw [e3, upM_off c1, e2, upM_off c3, e1, upM_off c2], fun j hj => by rw [e3, upM_ne (Or.inr hj), e2, upM_ne (by omega), e1, upM_ne (by omega)], by rw [e3, upM_self, hs0], fun j hj => by rw [e3, upM_ne (by omega), e2, upM_ne (by omega), e1, upM_ne (Or.inr hj)], by rw [e3, upM_ne (by omega), e2, upM_ne (by omega), e1, upM_self], fun j hj => ?_, fun _ => by rw [e3, upM_ne (by omega), e2, upM_self, hs0]⟩
  rw [e3, upM_ne (by omega), e2, upM_ne (by omega), e1, upM_ne (by omega)]
theorem ADM_of0 {μ μ1 μ3 : Mem} {p s : Nat} {w : Int} (hs0 : μ 9 p = (s : Int)) (hw : w < 0) (e1 : μ1 = upM μ 11 (p * 5 + s) w) (e3 : μ3 = upM μ1 9 p ((s : Int) + 1)) : ADM μ μ3 p w := by
  have i1 : p * 5 + s = 5 * p + (μ 9 p).toNat := by omega
  rw [i1] at e1
  refine ⟨fun c c1 c2 c3 => by rw [e3, upM_off c1, e1, upM_off c2], fun j hj => by rw [e3, upM_ne (Or.inr hj), e1, upM_ne (by omega)], by rw [e3, upM_self, hs0], fun j hj => by rw [e3, upM_ne (by omega), e1, upM_ne (Or.inr hj)], by rw [e3, upM_ne (by omega), e1, upM_self], fun j hj => by rw [e3, upM_ne (by omega), e1, upM_ne (by omega)], fun q => by omega⟩
theorem NBl_0 {μ μ1 μ2 : Mem} (hc : μ (2 + 0) 2 = 0) (e1 : μ1 = upM μ (2 + 1) 2 0) (e2 : μ2 = upM μ1 4 11 1) : NBl μ μ2 0 := by
  refine ⟨fun c c1 c2 c3 c4 c5 c6 => by rw [e2, upM_off c2, e1, upM_off (by omega)], fun j hj => by rw [e2, upM_ne (by omega), e1, upM_ne (by omega)], ?_, fun j hj => by rw [e2, upM_ne (by omega), e1, upM_ne (by omega)], by rw [e2, upM_self]; rfl, fun p hp hp2 => by omega⟩
  rw [e2, upM_ne (by omega), e1]
  show upM μ (2 + 1) 2 0 (2 + 1) 2 = μ (2 + 0) 2
  rw [upM_self, hc]
theorem FIl_0 {β μ μ1 : Mem} (hA : AS β μ) (hL : PL μ 1) (hS : SV β) (e1 : μ1 = upM μ 4 12 (pdI β (pcn β))) : FIl β μ μ1 0 := by
  have o : ∀ c, c ≠ 4 → μ1 c = μ c := fun c hc => by rw [e1, upM_off hc]
  have hag : AG μ μ1 1 := ⟨fun c hc => o c (by omega), o _ (by omega), o _ (by omega), by rw [o (2 + 1) (by omega)]⟩
  refine ⟨⟨fun c hc => by rw [o c (by omega)]; exact hA.1 c hc, by rw [e1, upM_ne (by omega)]; exact hA.2⟩, hag.PL9 (hA.AB9.WF9 hS.1) hL, by rw [e1, upM_self], fun k hk => by omega, fun c c1 c2 c3 c4 c5 => o c c1⟩
/-! balance -/
theorem sm_swap (f : Nat → Nat → Int) (n : Nat) : ∀ m : Nat, sm m (fun r => sm n (f r)) = sm n (fun p => sm m (fun r => f r p))
  | 0 => by
    have : ∀ k : Nat, sm k (fun _ : Nat => (0 : Int)) = 0 := fun k => by
      induction k with
      | zero => rfl
      | succ k ih => rw [sm_s, ih]; rfl
    show (0 : Int) = sm n (fun p => sm 0 (fun r => f r p))
    exact (this n).symm
  | m + 1 => by
    have add : ∀ (k : Nat) (a b : Nat → Int), sm k (fun p => a p + b p) = sm k a + sm k b := fun k a b => by
      induction k with
      | zero => rfl
      | succ k ih => rw [sm_s, sm_s, sm_s, ih]; omega
    rw [sm_s, sm_swap f n m]
    have e : (fun p => sm (m + 1) (fun r => f r p)) = fun p => sm m (fun r => f r p) + f m p := funext fun p => rfl
    rw [e, add]
theorem sm_tz (b w : Int) (hb : 0 ≤ b) : ∀ m : Nat, m ≤ 8 → b < ((2 ^ m : Nat) : Int) → sm m (fun r => if tz b r = 1 then w else 0) = w * pop8 b := by
  intro m hm hlt
  have h0 : ∀ r, m ≤ r → tz b r = 0 := fun r hr => tz_lt ⟨hb, by have : 2 ^ m ≤ 2 ^ r := Nat.pow_le_pow_right (by omega) hr; omega⟩
  have g : ∀ k : Nat, m + k = 8 → sm m (fun r => if tz b r = 1 then w else 0) = sm 8 (fun r => if tz b r = 1 then w else 0) := fun k => by
    intro hk
    have : ∀ j : Nat, j ≤ k → sm (m + j) (fun r => if tz b r = 1 then w else 0) = sm m (fun r => if tz b r = 1 then w else 0) := fun j => by
      induction j with
      | zero => intro _; rfl
      | succ j ih =>
        intro hj
        rw [← Nat.add_assoc, sm_s, ih (by omega), h0 (m + j) (by omega), if_neg (by omega), Int.add_zero]
    rw [← hk, this k (Nat.le_refl _)]
  rw [g (8 - m) (by omega)]
  have e : ∀ r, (if tz b r = 1 then w else 0) = w * tz b r := fun r => by
    rcases tz_01 b r with h | h <;> rw [h] <;> simp
  simp only [sm, e]
  unfold pop8
  rw [Int.mul_add, Int.mul_add, Int.mul_add, Int.mul_add, Int.mul_add, Int.mul_add, Int.mul_add]
  omega
/-- a way has only resources that there are -/
def WB (μ : Mem) : Prop := ∀ p, p < pcn μ → bits μ p (μ (5 + 2 * 0) p) < ((2 ^ rc μ : Nat) : Int)
theorem bal_0 {μ : Mem} (hW : WF μ) (hL : PL μ 0) (hb : WB μ) : bal μ 0 = 0 := by
  have h8 := hW.rc8
  have h6 := hW.pc6
  unfold bal
  have e1 : sm (rc μ) (μ (6 + 2 * 0)) = sm (rc μ) (fun r => sm (pcn μ) (tw μ 0 r)) := sm_congr _ (fun r hr => by rw [hL.2.1 r (by omega), if_pos hr])
  have e2 : sm (pcn μ) (popT μ 0) = sm (pcn μ) (fun p => sm (rc μ) (fun r => tw μ 0 r p)) := sm_congr _ (fun p hp => by
    have h := bits_rng hW (p := p) (by omega) (μ (5 + 2 * 0) p)
    have h2 := sm_tz (bits μ p (μ (5 + 2 * 0) p)) (μ (37 + p) 0) h.1 (rc μ) h8.1 (hb p hp)
    unfold popT
    rw [← h2]
    rfl)
  rw [e1, e2, sm_swap]
  omega
/-- behind number: the base of the survey -/
theorem SV_of {μ ν : Mem} (hW : WF μ) (hL : PL μ 0) (hL1 : PL μ 1) (hw : LW μ) (h : NB μ ν) : SV ν ∧ PL ν 1 ∧ pcn ν = pcn μ ∧ AG μ ν 0 := by
  have hag := NBl_AG h
  have hab : AB μ ν := hag.1
  refine ⟨⟨hab.WF9 hW, fun p hp => ?_, hag.PL9 hW hL, NB_NUM hW h⟩, ?_, hab.pcn9, hag⟩
  · rw [hab.pcn9] at hp
    have h6 := hW.pc6
    rw [hab (37 + p) (by omega), hag.2.1]
    exact hw p hp
  · have o := h.1
    have hag1 : AG μ ν 1 := ⟨hag.1, o _ (by omega) (by omega) (by omega) (by omega) (by omega) (by omega), o _ (by omega) (by omega) (by omega) (by omega) (by omega) (by omega), by
      have e := h.2.2.1
      have e2 := hL.2.2
      have e3 := hL1.2.2
      show ν 3 2 = μ 3 2
      rw [e]
      show μ (2 + 0) 2 = μ (2 + 1) 2
      rw [e2, e3]⟩
    exact hag1.PL9 hW hL1
theorem even_of {μ ν : Mem} {z : Int} (hW : WF μ) (hlw : LW μ) (hag : AG μ ν 0) (hz : z ≠ 0) (h : z = 0 ∨ (z = 1 ∧ ∃ m : Int, ∀ q, q < pcn μ → 0 ≤ μ (5 + 2 * 0) q → μ (37 + q) 0 = 1 ∧ μ (37 + q) 1 = m)) : ∃ m, EV ν m := by
  have hab : AB μ ν := hag.1
  have h6 := hW.pc6
  rcases h with h | ⟨-, m, h⟩
  · exact absurd h hz
  · refine ⟨m, fun p hp => ?_⟩
    rw [hab.pcn9] at hp
    rw [hab (37 + p) (by omega)]
    exact h p hp (hlw p hp).2.1
