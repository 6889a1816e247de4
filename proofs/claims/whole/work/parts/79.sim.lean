/-! how many can wait -/
theorem len_sub {α : Type} [DecidableEq α] : ∀ (l m : List α), l.Nodup → (∀ x ∈ l, x ∈ m) → l.length ≤ m.length := by
  intro l
  induction l with
  | nil => exact fun m _ _ => Nat.zero_le _
  | cons a l ih =>
    intro m hn hs
    have ha : a ∈ m := hs a List.mem_cons_self
    have h1 := ih (m.erase a) (List.nodup_cons.mp hn).2 (fun x hx => by
      refine (List.mem_erase_of_ne (fun z => ?_)).mpr (hs x (List.mem_cons_of_mem _ hx))
      exact (List.nodup_cons.mp hn).1 (z ▸ hx))
    rw [List.length_erase_of_mem ha] at h1
    have : 0 < m.length := List.length_pos_of_mem ha
    show l.length + 1 ≤ m.length
    omega
/-- all words that the first n clients have given -/
def allW (r : tR) : Nat → List (Int32 × Int32)
  | 0 => []
  | n + 1 => allW r n ++ (List.range (r.2 10 n).toInt.toNat).map (fun k => (nI n, nI (k + 1)))
theorem allW_len (r : tR) : ∀ n, (allW r n).length = swd r n := by
  intro n
  induction n with
  | zero => rfl
  | succ n ih => rw [allW, swd, List.length_append, ih, List.length_map, List.length_range]
theorem allW_mem (r : tR) {n c : Nat} (h : c < n) {x : Int32} (hx : wok r c x) : (nI c, x) ∈ allW r n := by
  induction n with
  | zero => omega
  | succ n ih =>
    rw [allW]
    by_cases z : c = n
    · subst z
      refine List.mem_append_right _ (List.mem_map.mpr ⟨x.toInt.toNat - 1, List.mem_range.mpr ?_, ?_⟩)
      · unfold wok at hx
        omega
      · unfold wok at hx
        have hlt := Int32.toInt_lt x
        have e : x = nI (x.toInt.toNat - 1 + 1) := toInt_inj (by rw [nI_toInt (by omega)]; omega)
        rw [← e]
    · exact List.mem_append_left _ (ih (by omega))
section OV
variable {K : kC} {N s d : Nat} {r r' : tR} {t t' : tC}
theorem flt_nodup {f : Nat} : ∀ (l : List (Int32 × Int32 × Int32 × Int32)), (l.map (fun e => (e.1, e.2.1, e.2.2.1))).Nodup → ((flt f l).map (fun e => (e.1, e.2.1))).Nodup := by
  intro l
  induction l with
  | nil => exact fun _ => List.nodup_nil
  | cons e l ih =>
    intro h
    rw [List.map_cons, List.nodup_cons] at h
    by_cases z : e.1 = nI f
    · rw [flt_yes z, List.map_cons, List.nodup_cons]
      refine ⟨fun hm => h.1 ?_, ih h.2⟩
      obtain ⟨x, hx, hxe⟩ := List.mem_map.mp hm
      refine List.mem_map.mpr ⟨(nI f, x), mem_flt.mp hx, ?_⟩
      have e1 : x.1 = e.2.1 := congrArg (fun p : Int32 × Int32 => p.1) hxe
      have e2 : x.2.1 = e.2.2.1 := congrArg (fun p : Int32 × Int32 => p.2) hxe
      show (nI f, x.1, x.2.1) = (e.1, e.2.1, e.2.2.1)
      rw [e1, e2, z]
    · rw [flt_no z]
      exact ih h.2
/-- at most as many wait at a file as operations began -/
theorem RS.wlen (h : RS K N s d r t) {f : Nat} (hf : f < K.2.1) : (t.2.1 f).length ≤ s ∧ (t.2.1 f).length ≤ d := by
  have h8 := h.2.2.2.2.2.2.2.1
  obtain ⟨b1, b2, b3, b4, b5, b6⟩ := h.2.2.2.2.2.2.2.2
  refine ⟨?_, Nat.le_trans (h8.len hf) b3⟩
  rw [h8.2.2.1 f hf]
  have hn := flt_nodup (f := f) (lsR r) b5
  have hl := len_sub _ (allW r K.1) hn (fun x hx => by
    obtain ⟨y, hy, rfl⟩ := List.mem_map.mp hx
    have hm := mem_flt.mp hy
    obtain ⟨_, c, hc, hce⟩ := h8.2.2.2.1 _ hm
    have hw := b4 _ hm c hc hce
    have : y.1 = nI c := hce
    show (y.1, y.2.1) ∈ allW r K.1
    rw [this]
    exact allW_mem r hc hw)
  rw [List.length_map, allW_len] at hl
  omega
/-- a write that isn't there yet is put at the end -/
def putR (r : tR) (c f : Nat) (wo v : Int32) : tR := stF (stA (stA (stA (stA r 5 (wN r) (nI c)) 6 (wN r) (nI f)) 7 (wN r) wo) 8 (wN r) v) 8 (nI (wN r + 1))
theorem putR_o (r : tR) (c f : Nat) (wo v : Int32) {m : Nat} (h : m < 5 ∨ 8 < m) : (putR r c f wo v).2 m = r.2 m := by
  show (stA (stA (stA (stA r 5 (wN r) (nI c)) 6 (wN r) (nI f)) 7 (wN r) wo) 8 (wN r) v).2 m = _
  rw [stA_k _ _ _ _ (by omega), stA_k _ _ _ _ (by omega), stA_k _ _ _ _ (by omega), stA_k _ _ _ _ (by omega)]
theorem putR_n (r : tR) (c f : Nat) (wo v : Int32) {m : Nat} (h : m ≠ 8) : (putR r c f wo v).1 m = r.1 m := by
  simp [putR, stF, stA, upd, h]
theorem putR_ls (r : tR) (c f : Nat) (wo v : Int32) (hw : wN r ≤ 512) : wN (putR r c f wo v) = wN r + 1 ∧ lsR (putR r c f wo v) = lsR r ++ [(nI f, nI c, wo, v)] := by
  have e8 : (putR r c f wo v).1 8 = nI (wN r + 1) := by simp [putR, stF, upd]
  have hn : wN (putR r c f wo v) = wN r + 1 := pk_cl _ e8 (by omega)
  refine ⟨hn, ?_⟩
  rw [lsR_N, hn, lsN_s, lsR_N]
  have e1 : lsN (putR r c f wo v) (wN r) = lsN r (wN r) := by
    unfold lsN
    refine List.map_congr_left (fun k hk => ?_)
    have hk : k ≠ wN r := by
      have := List.mem_range.mp hk
      omega
    unfold enR
    simp [putR, stF, stA, upd, hk]
  have e2 : enR (putR r c f wo v) (wN r) = (nI f, nI c, wo, v) := by
    unfold enR
    simp [putR, stF, stA, upd]
  rw [e1, e2]
theorem adl_eq (K : kC) {t : tC} {f : Nat} (x y z : Int32) (hl : (t.2.1 f).length < 256) (hf : f < 4) : (s_F_addLast K t f x y z).2.1 f = t.2.1 f ++ [(x, y, z)] ∧ (∀ g, g ≠ f → g ≠ 4 → (s_F_addLast K t f x y z).2.1 g = t.2.1 g) ∧ (s_F_addLast K t f x y z).2.2 = t.2.2 := by
  have e : s_F_addLast K t f x y z = adC (hdC t (x, y, z)) f := by
    unfold s_F_addLast s_A_size
    rw [if_neg]
    intro q
    exact absurd ((nI_leI (a := 256) (by omega) (by omega)).mp q) (by omega)
  rw [e]
  refine ⟨?_, fun g h1 h2 => ?_, rfl⟩
  · show (if f = 4 then [] else if f = f then (hdC t (x, y, z)).2.1 f ++ [(x, y, z)] else _) = _
    rw [if_neg (by omega), if_pos rfl]
    show (if f = 4 then _ else t.2.1 f) ++ _ = _
    rw [if_neg (by omega)]
  · show (if g = 4 then [] else if g = f then _ else (hdC t (x, y, z)).2.1 g) = _
    rw [if_neg h2, if_neg h1]
    show (if g = 4 then _ else t.2.1 g) = _
    rw [if_neg h2]
theorem RS.put (h : RS K N s d r t) {c f : Nat} (hc : c < K.1) (hf : f < K.2.1) {wo : Int32} (v : Int32) (hw : wok r c wo) (hnew : ∀ e ∈ lsR r, ¬ (e.1 = nI f ∧ e.2.1 = nI c ∧ e.2.2.1 = wo)) (hl : (t.2.1 f).length < 256) (hd : wN r < 512) (hup : r.1 5 = 0) : RS K N s (d + 1) (putR r c f wo v) (s_F_addLast K t f (nI c) wo v) := by
  have hK := h.1.2.2.2.2.1
  obtain ⟨h1, h2, h3, h4, h5, h6, h7, h8, h9⟩ := h
  have o := fun m (hm : m < 5 ∨ 8 < m) => putR_o r c f wo v (m := m) hm
  have n := fun m (hm : m ≠ 8) => putR_n r c f wo v (m := m) hm
  have q := adl_1 K t f (nI c) wo v
  obtain ⟨a1, a2, a3⟩ := adl_eq K (t := t) (f := f) (nI c) wo v hl (by omega)
  obtain ⟨p1, p2⟩ := putR_ls r c f wo v (by omega)
  obtain ⟨w1, w2, w3, w4, w5⟩ := h8
  obtain ⟨b1, b2, b3, b4, b5, b6⟩ := h9
  have e8 : (putR r c f wo v).1 8 = nI (wN r + 1) := by simp [putR, stF, upd]
  refine ⟨h1.of (fun m hm => n m (by omega)), h2.of (fun m _ _ => n m (by omega)) (by rw [q]), h3.of (fun m _ _ => o m (by omega)) (by rw [q]), h4.of (fun m _ _ => o m (by omega)) (by rw [q]), h5.of (o 0 (by decide)) (o 1 (by decide)) (o 3 (by decide)) (o 4 (by decide)) (by rw [q]) (by rw [q]) (by rw [q]), h6.of (o 2 (by decide)) (n 4 (by decide)) (by rw [q]), h7.of (n 9 (by decide)) (o 23 (by decide)) (fun i _ => by rw [q]) a3, ⟨by rw [p1]; exact e8, by omega, fun g hg => ?_, fun e he => ?_, fun z => ?_⟩, ⟨?_, ?_, by omega, ?_, ?_, ?_⟩⟩
  · rw [p2, flt_app]
    by_cases z : g = f
    · subst z
      rw [a1, w3 g hg, flt_yes (e := (nI g, nI c, wo, v)) rfl]
      rfl
    · rw [a2 g z (by omega), w3 g hg, flt_no (e := (nI f, nI c, wo, v)) (fun y => z (nI_inj4 (by omega) (by omega) y).symm)]
      simp [flt_nil]
  · rw [p2] at he
    rcases List.mem_append.mp he with he | he
    · exact w4 e he
    · rw [List.mem_singleton.mp he]
      exact ⟨⟨f, hf, rfl⟩, c, hc, rfl⟩
  · rw [n 5 (by decide), hup] at z
    exact absurd z (by decide)
  · rw [o 10 (by decide), o 11 (by decide)]
    exact b1
  · rw [swd_of (o 10 (by decide))]
    exact b2
  · rw [p2]
    unfold wok at *
    rw [o 10 (by decide)]
    intro e he c' hc' hh
    rcases List.mem_append.mp he with he | he
    · exact b4 e he c' hc' hh
    · rw [List.mem_singleton.mp he] at hh ⊢
      have : c = c' := nI_inj4 (by omega) (by omega) hh
      subst this
      exact hw
  · rw [p2, List.map_append, List.nodup_append]
    refine ⟨b5, by simp, fun x hx y hy z => ?_⟩
    obtain ⟨e, he, rfl⟩ := List.mem_map.mp hx
    rw [List.map_singleton, List.mem_singleton] at hy
    rw [hy] at z
    exact hnew e he ⟨congrArg Prod.fst z, congrArg (fun x : Int32 × Int32 × Int32 => x.2.1) z, congrArg (fun x : Int32 × Int32 × Int32 => x.2.2) z⟩
  · have hp : pN (putR r c f wo v) = pN r := by
      unfold pN
      rw [n 9 (by decide)]
    unfold wok at *
    rw [hp, o 23 (by decide), o 10 (by decide)]
    exact b6
end OV
