/-! printed by wip/whole/wit.py: how an answer and a state are found -/
section WB
variable {cf : Nat → Nat}
theorem w_p1i {A : Int32 → ka_T → Prop} {X Y : (Int32 → ka_T → Prop) → Prop} {c : Prop} (hc : c) (h : ∃ (r : Int32) (k1 : ka_T), A r k1 ∧ ∀ post : Int32 → ka_T → Prop, post r k1 → X post) : ∃ (r : Int32) (k1 : ka_T), A r k1 ∧ ∀ post : Int32 → ka_T → Prop, post r k1 → ((c → X post) ∧ (¬ c → Y post)) := by
  obtain ⟨r, k1, ha, hp⟩ := h
  exact ⟨r, k1, ha, fun post hq => ⟨fun _ => hp post hq, fun h9 => absurd hc h9⟩⟩
theorem w_p2i {A : Int32 → ka_T → Prop} {X Y : (Int32 → ka_T → Prop) → Prop} {c : Prop} (hc : ¬ c) (h : ∃ (r : Int32) (k1 : ka_T), A r k1 ∧ ∀ post : Int32 → ka_T → Prop, post r k1 → Y post) : ∃ (r : Int32) (k1 : ka_T), A r k1 ∧ ∀ post : Int32 → ka_T → Prop, post r k1 → ((c → X post) ∧ (¬ c → Y post)) := by
  obtain ⟨r, k1, ha, hp⟩ := h
  exact ⟨r, k1, ha, fun post hq => ⟨fun h9 => absurd h9 hc, fun _ => hp post hq⟩⟩
theorem w_n1i {A : Int32 → ka_T → Prop} {X Y : (Int32 → ka_T → Prop) → Prop} {c : Prop} (hc : ¬ c) (h : ∃ (r : Int32) (k1 : ka_T), A r k1 ∧ ∀ post : Int32 → ka_T → Prop, post r k1 → X post) : ∃ (r : Int32) (k1 : ka_T), A r k1 ∧ ∀ post : Int32 → ka_T → Prop, post r k1 → ((¬ c → X post) ∧ (c → Y post)) := by
  obtain ⟨r, k1, ha, hp⟩ := h
  exact ⟨r, k1, ha, fun post hq => ⟨fun _ => hp post hq, fun h9 => absurd h9 hc⟩⟩
theorem w_n2i {A : Int32 → ka_T → Prop} {X Y : (Int32 → ka_T → Prop) → Prop} {c : Prop} (hc : c) (h : ∃ (r : Int32) (k1 : ka_T), A r k1 ∧ ∀ post : Int32 → ka_T → Prop, post r k1 → Y post) : ∃ (r : Int32) (k1 : ka_T), A r k1 ∧ ∀ post : Int32 → ka_T → Prop, post r k1 → ((¬ c → X post) ∧ (c → Y post)) := by
  obtain ⟨r, k1, ha, hp⟩ := h
  exact ⟨r, k1, ha, fun post hq => ⟨fun h9 => absurd hc h9, fun _ => hp post hq⟩⟩
theorem w_ani {A : Int32 → ka_T → Prop} {X : (Int32 → ka_T → Prop) → Prop} {c : Prop} (hc : c) (h : ∃ (r : Int32) (k1 : ka_T), A r k1 ∧ ∀ post : Int32 → ka_T → Prop, post r k1 → X post) : ∃ (r : Int32) (k1 : ka_T), A r k1 ∧ ∀ post : Int32 → ka_T → Prop, post r k1 → (c ∧ X post) := by
  obtain ⟨r, k1, ha, hp⟩ := h
  exact ⟨r, k1, ha, fun post hq => ⟨hc, hp post hq⟩⟩
theorem w_ali {A : Int32 → ka_T → Prop} {e1 : ka_T} {Z : ka_T → (Int32 → ka_T → Prop) → Prop} (h : ∃ (r : Int32) (k1 : ka_T), A r k1 ∧ ∀ post : Int32 → ka_T → Prop, post r k1 → Z e1 post) : ∃ (r : Int32) (k1 : ka_T), A r k1 ∧ ∀ post : Int32 → ka_T → Prop, post r k1 → (∀ k9 : ka_T, k9 = e1 → Z k9 post) := by
  obtain ⟨r, k1, ha, hp⟩ := h
  exact ⟨r, k1, ha, fun post hq => fun k9 e9 => e9 ▸ hp post hq⟩
theorem w_ari {A : Int32 → ka_T → Prop} {i : Int32} {m : Nat} {Z : Nat → (Int32 → ka_T → Prop) → Prop} (hv : vp_in i m) (h : ∃ (r : Int32) (k1 : ka_T), A r k1 ∧ ∀ post : Int32 → ka_T → Prop, post r k1 → Z i.toNatClampNeg post) : ∃ (r : Int32) (k1 : ka_T), A r k1 ∧ ∀ post : Int32 → ka_T → Prop, post r k1 → (vp_in i m ∧ (∀ t9 : Nat, t9 = i.toNatClampNeg → t9 < m → Z t9 post)) := by
  obtain ⟨r, k1, ha, hp⟩ := h
  exact ⟨r, k1, ha, fun post hq => ⟨hv, fun t9 e9 _ => e9 ▸ hp post hq⟩⟩
theorem w_cii {A : Int32 → ka_T → Prop} {Qc : (Int32 → ka_T → Prop) → Prop} {r2 : Int32} {k2 : ka_T} {Z : Int32 → ka_T → (Int32 → ka_T → Prop) → Prop} (hc : ∀ p : Int32 → ka_T → Prop, p r2 k2 → Qc p) (h : ∃ (r : Int32) (k1 : ka_T), A r k1 ∧ ∀ post : Int32 → ka_T → Prop, post r k1 → Z r2 k2 post) : ∃ (r : Int32) (k1 : ka_T), A r k1 ∧ ∀ post : Int32 → ka_T → Prop, post r k1 → Qc (fun r k => Z r k post) := by
  obtain ⟨r, k1, ha, hp⟩ := h
  exact ⟨r, k1, ha, fun post hq => hc _ (hp post hq)⟩
theorem w_cvi {A : Int32 → ka_T → Prop} {Qc : (ka_T → Prop) → Prop} {k2 : ka_T} {Z : ka_T → (Int32 → ka_T → Prop) → Prop} (hc : ∀ p : ka_T → Prop, p k2 → Qc p) (h : ∃ (r : Int32) (k1 : ka_T), A r k1 ∧ ∀ post : Int32 → ka_T → Prop, post r k1 → Z k2 post) : ∃ (r : Int32) (k1 : ka_T), A r k1 ∧ ∀ post : Int32 → ka_T → Prop, post r k1 → Qc (fun k => Z k post) := by
  obtain ⟨r, k1, ha, hp⟩ := h
  exact ⟨r, k1, ha, fun post hq => hc _ (hp post hq)⟩
theorem w_coi {A : Int32 → ka_T → Prop} {Qc : (Option Nat → ka_T → Prop) → Prop} {r2 : Option Nat} {k2 : ka_T} {Z : Option Nat → ka_T → (Int32 → ka_T → Prop) → Prop} (hc : ∀ p : Option Nat → ka_T → Prop, p r2 k2 → Qc p) (h : ∃ (r : Int32) (k1 : ka_T), A r k1 ∧ ∀ post : Int32 → ka_T → Prop, post r k1 → Z r2 k2 post) : ∃ (r : Int32) (k1 : ka_T), A r k1 ∧ ∀ post : Int32 → ka_T → Prop, post r k1 → Qc (fun r k => Z r k post) := by
  obtain ⟨r, k1, ha, hp⟩ := h
  exact ⟨r, k1, ha, fun post hq => hc _ (hp post hq)⟩
theorem w_o0i {A : Int32 → ka_T → Prop} {X : (Int32 → ka_T → Prop) → Prop} {Z : Nat → (Int32 → ka_T → Prop) → Prop} {m : Nat} (h : ∃ (r : Int32) (k1 : ka_T), A r k1 ∧ ∀ post : Int32 → ka_T → Prop, post r k1 → X post) : ∃ (r : Int32) (k1 : ka_T), A r k1 ∧ ∀ post : Int32 → ka_T → Prop, post r k1 → (((none : Option Nat) = none → X post) ∧ (∀ t9 : Nat, none = some t9 → t9 < m → Z t9 post)) := by
  obtain ⟨r, k1, ha, hp⟩ := h
  exact ⟨r, k1, ha, fun post hq => ⟨fun _ => hp post hq, fun _ h9 => (by cases h9)⟩⟩
theorem w_o1i {A : Int32 → ka_T → Prop} {X : (Int32 → ka_T → Prop) → Prop} {Z : Nat → (Int32 → ka_T → Prop) → Prop} {m t : Nat} (h : ∃ (r : Int32) (k1 : ka_T), A r k1 ∧ ∀ post : Int32 → ka_T → Prop, post r k1 → Z t post) : ∃ (r : Int32) (k1 : ka_T), A r k1 ∧ ∀ post : Int32 → ka_T → Prop, post r k1 → ((some t = none → X post) ∧ (∀ t9 : Nat, some t = some t9 → t9 < m → Z t9 post)) := by
  obtain ⟨r, k1, ha, hp⟩ := h
  exact ⟨r, k1, ha, fun post hq => ⟨fun h9 => (by cases h9), fun t9 h9 _ => (by cases h9; exact hp post hq)⟩⟩
theorem w_exi {A : Int32 → ka_T → Prop} {Z : Nat → (Int32 → ka_T → Prop) → Prop} (m : Nat) (h : ∃ (r : Int32) (k1 : ka_T), A r k1 ∧ ∀ post : Int32 → ka_T → Prop, post r k1 → Z m post) : ∃ (r : Int32) (k1 : ka_T), A r k1 ∧ ∀ post : Int32 → ka_T → Prop, post r k1 → (∃ m9 : Nat, Z m9 post) := by
  obtain ⟨r, k1, ha, hp⟩ := h
  exact ⟨r, k1, ha, fun post hq => ⟨m, hp post hq⟩⟩
theorem w_p1v {A : ka_T → Prop} {X Y : (ka_T → Prop) → Prop} {c : Prop} (hc : c) (h : ∃ k1 : ka_T, A k1 ∧ ∀ post : ka_T → Prop, post k1 → X post) : ∃ k1 : ka_T, A k1 ∧ ∀ post : ka_T → Prop, post k1 → ((c → X post) ∧ (¬ c → Y post)) := by
  obtain ⟨k1, ha, hp⟩ := h
  exact ⟨k1, ha, fun post hq => ⟨fun _ => hp post hq, fun h9 => absurd hc h9⟩⟩
theorem w_p2v {A : ka_T → Prop} {X Y : (ka_T → Prop) → Prop} {c : Prop} (hc : ¬ c) (h : ∃ k1 : ka_T, A k1 ∧ ∀ post : ka_T → Prop, post k1 → Y post) : ∃ k1 : ka_T, A k1 ∧ ∀ post : ka_T → Prop, post k1 → ((c → X post) ∧ (¬ c → Y post)) := by
  obtain ⟨k1, ha, hp⟩ := h
  exact ⟨k1, ha, fun post hq => ⟨fun h9 => absurd h9 hc, fun _ => hp post hq⟩⟩
theorem w_n1v {A : ka_T → Prop} {X Y : (ka_T → Prop) → Prop} {c : Prop} (hc : ¬ c) (h : ∃ k1 : ka_T, A k1 ∧ ∀ post : ka_T → Prop, post k1 → X post) : ∃ k1 : ka_T, A k1 ∧ ∀ post : ka_T → Prop, post k1 → ((¬ c → X post) ∧ (c → Y post)) := by
  obtain ⟨k1, ha, hp⟩ := h
  exact ⟨k1, ha, fun post hq => ⟨fun _ => hp post hq, fun h9 => absurd h9 hc⟩⟩
theorem w_n2v {A : ka_T → Prop} {X Y : (ka_T → Prop) → Prop} {c : Prop} (hc : c) (h : ∃ k1 : ka_T, A k1 ∧ ∀ post : ka_T → Prop, post k1 → Y post) : ∃ k1 : ka_T, A k1 ∧ ∀ post : ka_T → Prop, post k1 → ((¬ c → X post) ∧ (c → Y post)) := by
  obtain ⟨k1, ha, hp⟩ := h
  exact ⟨k1, ha, fun post hq => ⟨fun h9 => absurd hc h9, fun _ => hp post hq⟩⟩
theorem w_anv {A : ka_T → Prop} {X : (ka_T → Prop) → Prop} {c : Prop} (hc : c) (h : ∃ k1 : ka_T, A k1 ∧ ∀ post : ka_T → Prop, post k1 → X post) : ∃ k1 : ka_T, A k1 ∧ ∀ post : ka_T → Prop, post k1 → (c ∧ X post) := by
  obtain ⟨k1, ha, hp⟩ := h
  exact ⟨k1, ha, fun post hq => ⟨hc, hp post hq⟩⟩
theorem w_alv {A : ka_T → Prop} {e1 : ka_T} {Z : ka_T → (ka_T → Prop) → Prop} (h : ∃ k1 : ka_T, A k1 ∧ ∀ post : ka_T → Prop, post k1 → Z e1 post) : ∃ k1 : ka_T, A k1 ∧ ∀ post : ka_T → Prop, post k1 → (∀ k9 : ka_T, k9 = e1 → Z k9 post) := by
  obtain ⟨k1, ha, hp⟩ := h
  exact ⟨k1, ha, fun post hq => fun k9 e9 => e9 ▸ hp post hq⟩
theorem w_arv {A : ka_T → Prop} {i : Int32} {m : Nat} {Z : Nat → (ka_T → Prop) → Prop} (hv : vp_in i m) (h : ∃ k1 : ka_T, A k1 ∧ ∀ post : ka_T → Prop, post k1 → Z i.toNatClampNeg post) : ∃ k1 : ka_T, A k1 ∧ ∀ post : ka_T → Prop, post k1 → (vp_in i m ∧ (∀ t9 : Nat, t9 = i.toNatClampNeg → t9 < m → Z t9 post)) := by
  obtain ⟨k1, ha, hp⟩ := h
  exact ⟨k1, ha, fun post hq => ⟨hv, fun t9 e9 _ => e9 ▸ hp post hq⟩⟩
theorem w_civ {A : ka_T → Prop} {Qc : (Int32 → ka_T → Prop) → Prop} {r2 : Int32} {k2 : ka_T} {Z : Int32 → ka_T → (ka_T → Prop) → Prop} (hc : ∀ p : Int32 → ka_T → Prop, p r2 k2 → Qc p) (h : ∃ k1 : ka_T, A k1 ∧ ∀ post : ka_T → Prop, post k1 → Z r2 k2 post) : ∃ k1 : ka_T, A k1 ∧ ∀ post : ka_T → Prop, post k1 → Qc (fun r k => Z r k post) := by
  obtain ⟨k1, ha, hp⟩ := h
  exact ⟨k1, ha, fun post hq => hc _ (hp post hq)⟩
theorem w_cvv {A : ka_T → Prop} {Qc : (ka_T → Prop) → Prop} {k2 : ka_T} {Z : ka_T → (ka_T → Prop) → Prop} (hc : ∀ p : ka_T → Prop, p k2 → Qc p) (h : ∃ k1 : ka_T, A k1 ∧ ∀ post : ka_T → Prop, post k1 → Z k2 post) : ∃ k1 : ka_T, A k1 ∧ ∀ post : ka_T → Prop, post k1 → Qc (fun k => Z k post) := by
  obtain ⟨k1, ha, hp⟩ := h
  exact ⟨k1, ha, fun post hq => hc _ (hp post hq)⟩
theorem w_cov {A : ka_T → Prop} {Qc : (Option Nat → ka_T → Prop) → Prop} {r2 : Option Nat} {k2 : ka_T} {Z : Option Nat → ka_T → (ka_T → Prop) → Prop} (hc : ∀ p : Option Nat → ka_T → Prop, p r2 k2 → Qc p) (h : ∃ k1 : ka_T, A k1 ∧ ∀ post : ka_T → Prop, post k1 → Z r2 k2 post) : ∃ k1 : ka_T, A k1 ∧ ∀ post : ka_T → Prop, post k1 → Qc (fun r k => Z r k post) := by
  obtain ⟨k1, ha, hp⟩ := h
  exact ⟨k1, ha, fun post hq => hc _ (hp post hq)⟩
theorem w_o0v {A : ka_T → Prop} {X : (ka_T → Prop) → Prop} {Z : Nat → (ka_T → Prop) → Prop} {m : Nat} (h : ∃ k1 : ka_T, A k1 ∧ ∀ post : ka_T → Prop, post k1 → X post) : ∃ k1 : ka_T, A k1 ∧ ∀ post : ka_T → Prop, post k1 → (((none : Option Nat) = none → X post) ∧ (∀ t9 : Nat, none = some t9 → t9 < m → Z t9 post)) := by
  obtain ⟨k1, ha, hp⟩ := h
  exact ⟨k1, ha, fun post hq => ⟨fun _ => hp post hq, fun _ h9 => (by cases h9)⟩⟩
theorem w_o1v {A : ka_T → Prop} {X : (ka_T → Prop) → Prop} {Z : Nat → (ka_T → Prop) → Prop} {m t : Nat} (h : ∃ k1 : ka_T, A k1 ∧ ∀ post : ka_T → Prop, post k1 → Z t post) : ∃ k1 : ka_T, A k1 ∧ ∀ post : ka_T → Prop, post k1 → ((some t = none → X post) ∧ (∀ t9 : Nat, some t = some t9 → t9 < m → Z t9 post)) := by
  obtain ⟨k1, ha, hp⟩ := h
  exact ⟨k1, ha, fun post hq => ⟨fun h9 => (by cases h9), fun t9 h9 _ => (by cases h9; exact hp post hq)⟩⟩
theorem w_exv {A : ka_T → Prop} {Z : Nat → (ka_T → Prop) → Prop} (m : Nat) (h : ∃ k1 : ka_T, A k1 ∧ ∀ post : ka_T → Prop, post k1 → Z m post) : ∃ k1 : ka_T, A k1 ∧ ∀ post : ka_T → Prop, post k1 → (∃ m9 : Nat, Z m9 post) := by
  obtain ⟨k1, ha, hp⟩ := h
  exact ⟨k1, ha, fun post hq => ⟨m, hp post hq⟩⟩
theorem w_p1o {A : Option Nat → ka_T → Prop} {X Y : (Option Nat → ka_T → Prop) → Prop} {c : Prop} (hc : c) (h : ∃ (r : Option Nat) (k1 : ka_T), (∀ n, r = some n → n < cf 0) ∧ A r k1 ∧ ∀ post : Option Nat → ka_T → Prop, post r k1 → X post) : ∃ (r : Option Nat) (k1 : ka_T), (∀ n, r = some n → n < cf 0) ∧ A r k1 ∧ ∀ post : Option Nat → ka_T → Prop, post r k1 → ((c → X post) ∧ (¬ c → Y post)) := by
  obtain ⟨r, k1, hn, ha, hp⟩ := h
  exact ⟨r, k1, hn, ha, fun post hq => ⟨fun _ => hp post hq, fun h9 => absurd hc h9⟩⟩
theorem w_p2o {A : Option Nat → ka_T → Prop} {X Y : (Option Nat → ka_T → Prop) → Prop} {c : Prop} (hc : ¬ c) (h : ∃ (r : Option Nat) (k1 : ka_T), (∀ n, r = some n → n < cf 0) ∧ A r k1 ∧ ∀ post : Option Nat → ka_T → Prop, post r k1 → Y post) : ∃ (r : Option Nat) (k1 : ka_T), (∀ n, r = some n → n < cf 0) ∧ A r k1 ∧ ∀ post : Option Nat → ka_T → Prop, post r k1 → ((c → X post) ∧ (¬ c → Y post)) := by
  obtain ⟨r, k1, hn, ha, hp⟩ := h
  exact ⟨r, k1, hn, ha, fun post hq => ⟨fun h9 => absurd h9 hc, fun _ => hp post hq⟩⟩
theorem w_n1o {A : Option Nat → ka_T → Prop} {X Y : (Option Nat → ka_T → Prop) → Prop} {c : Prop} (hc : ¬ c) (h : ∃ (r : Option Nat) (k1 : ka_T), (∀ n, r = some n → n < cf 0) ∧ A r k1 ∧ ∀ post : Option Nat → ka_T → Prop, post r k1 → X post) : ∃ (r : Option Nat) (k1 : ka_T), (∀ n, r = some n → n < cf 0) ∧ A r k1 ∧ ∀ post : Option Nat → ka_T → Prop, post r k1 → ((¬ c → X post) ∧ (c → Y post)) := by
  obtain ⟨r, k1, hn, ha, hp⟩ := h
  exact ⟨r, k1, hn, ha, fun post hq => ⟨fun _ => hp post hq, fun h9 => absurd h9 hc⟩⟩
theorem w_n2o {A : Option Nat → ka_T → Prop} {X Y : (Option Nat → ka_T → Prop) → Prop} {c : Prop} (hc : c) (h : ∃ (r : Option Nat) (k1 : ka_T), (∀ n, r = some n → n < cf 0) ∧ A r k1 ∧ ∀ post : Option Nat → ka_T → Prop, post r k1 → Y post) : ∃ (r : Option Nat) (k1 : ka_T), (∀ n, r = some n → n < cf 0) ∧ A r k1 ∧ ∀ post : Option Nat → ka_T → Prop, post r k1 → ((¬ c → X post) ∧ (c → Y post)) := by
  obtain ⟨r, k1, hn, ha, hp⟩ := h
  exact ⟨r, k1, hn, ha, fun post hq => ⟨fun h9 => absurd hc h9, fun _ => hp post hq⟩⟩
theorem w_ano {A : Option Nat → ka_T → Prop} {X : (Option Nat → ka_T → Prop) → Prop} {c : Prop} (hc : c) (h : ∃ (r : Option Nat) (k1 : ka_T), (∀ n, r = some n → n < cf 0) ∧ A r k1 ∧ ∀ post : Option Nat → ka_T → Prop, post r k1 → X post) : ∃ (r : Option Nat) (k1 : ka_T), (∀ n, r = some n → n < cf 0) ∧ A r k1 ∧ ∀ post : Option Nat → ka_T → Prop, post r k1 → (c ∧ X post) := by
  obtain ⟨r, k1, hn, ha, hp⟩ := h
  exact ⟨r, k1, hn, ha, fun post hq => ⟨hc, hp post hq⟩⟩
theorem w_alo {A : Option Nat → ka_T → Prop} {e1 : ka_T} {Z : ka_T → (Option Nat → ka_T → Prop) → Prop} (h : ∃ (r : Option Nat) (k1 : ka_T), (∀ n, r = some n → n < cf 0) ∧ A r k1 ∧ ∀ post : Option Nat → ka_T → Prop, post r k1 → Z e1 post) : ∃ (r : Option Nat) (k1 : ka_T), (∀ n, r = some n → n < cf 0) ∧ A r k1 ∧ ∀ post : Option Nat → ka_T → Prop, post r k1 → (∀ k9 : ka_T, k9 = e1 → Z k9 post) := by
  obtain ⟨r, k1, hn, ha, hp⟩ := h
  exact ⟨r, k1, hn, ha, fun post hq => fun k9 e9 => e9 ▸ hp post hq⟩
theorem w_aro {A : Option Nat → ka_T → Prop} {i : Int32} {m : Nat} {Z : Nat → (Option Nat → ka_T → Prop) → Prop} (hv : vp_in i m) (h : ∃ (r : Option Nat) (k1 : ka_T), (∀ n, r = some n → n < cf 0) ∧ A r k1 ∧ ∀ post : Option Nat → ka_T → Prop, post r k1 → Z i.toNatClampNeg post) : ∃ (r : Option Nat) (k1 : ka_T), (∀ n, r = some n → n < cf 0) ∧ A r k1 ∧ ∀ post : Option Nat → ka_T → Prop, post r k1 → (vp_in i m ∧ (∀ t9 : Nat, t9 = i.toNatClampNeg → t9 < m → Z t9 post)) := by
  obtain ⟨r, k1, hn, ha, hp⟩ := h
  exact ⟨r, k1, hn, ha, fun post hq => ⟨hv, fun t9 e9 _ => e9 ▸ hp post hq⟩⟩
theorem w_cio {A : Option Nat → ka_T → Prop} {Qc : (Int32 → ka_T → Prop) → Prop} {r2 : Int32} {k2 : ka_T} {Z : Int32 → ka_T → (Option Nat → ka_T → Prop) → Prop} (hc : ∀ p : Int32 → ka_T → Prop, p r2 k2 → Qc p) (h : ∃ (r : Option Nat) (k1 : ka_T), (∀ n, r = some n → n < cf 0) ∧ A r k1 ∧ ∀ post : Option Nat → ka_T → Prop, post r k1 → Z r2 k2 post) : ∃ (r : Option Nat) (k1 : ka_T), (∀ n, r = some n → n < cf 0) ∧ A r k1 ∧ ∀ post : Option Nat → ka_T → Prop, post r k1 → Qc (fun r k => Z r k post) := by
  obtain ⟨r, k1, hn, ha, hp⟩ := h
  exact ⟨r, k1, hn, ha, fun post hq => hc _ (hp post hq)⟩
theorem w_cvo {A : Option Nat → ka_T → Prop} {Qc : (ka_T → Prop) → Prop} {k2 : ka_T} {Z : ka_T → (Option Nat → ka_T → Prop) → Prop} (hc : ∀ p : ka_T → Prop, p k2 → Qc p) (h : ∃ (r : Option Nat) (k1 : ka_T), (∀ n, r = some n → n < cf 0) ∧ A r k1 ∧ ∀ post : Option Nat → ka_T → Prop, post r k1 → Z k2 post) : ∃ (r : Option Nat) (k1 : ka_T), (∀ n, r = some n → n < cf 0) ∧ A r k1 ∧ ∀ post : Option Nat → ka_T → Prop, post r k1 → Qc (fun k => Z k post) := by
  obtain ⟨r, k1, hn, ha, hp⟩ := h
  exact ⟨r, k1, hn, ha, fun post hq => hc _ (hp post hq)⟩
theorem w_coo {A : Option Nat → ka_T → Prop} {Qc : (Option Nat → ka_T → Prop) → Prop} {r2 : Option Nat} {k2 : ka_T} {Z : Option Nat → ka_T → (Option Nat → ka_T → Prop) → Prop} (hc : ∀ p : Option Nat → ka_T → Prop, p r2 k2 → Qc p) (h : ∃ (r : Option Nat) (k1 : ka_T), (∀ n, r = some n → n < cf 0) ∧ A r k1 ∧ ∀ post : Option Nat → ka_T → Prop, post r k1 → Z r2 k2 post) : ∃ (r : Option Nat) (k1 : ka_T), (∀ n, r = some n → n < cf 0) ∧ A r k1 ∧ ∀ post : Option Nat → ka_T → Prop, post r k1 → Qc (fun r k => Z r k post) := by
  obtain ⟨r, k1, hn, ha, hp⟩ := h
  exact ⟨r, k1, hn, ha, fun post hq => hc _ (hp post hq)⟩
theorem w_o0o {A : Option Nat → ka_T → Prop} {X : (Option Nat → ka_T → Prop) → Prop} {Z : Nat → (Option Nat → ka_T → Prop) → Prop} {m : Nat} (h : ∃ (r : Option Nat) (k1 : ka_T), (∀ n, r = some n → n < cf 0) ∧ A r k1 ∧ ∀ post : Option Nat → ka_T → Prop, post r k1 → X post) : ∃ (r : Option Nat) (k1 : ka_T), (∀ n, r = some n → n < cf 0) ∧ A r k1 ∧ ∀ post : Option Nat → ka_T → Prop, post r k1 → (((none : Option Nat) = none → X post) ∧ (∀ t9 : Nat, none = some t9 → t9 < m → Z t9 post)) := by
  obtain ⟨r, k1, hn, ha, hp⟩ := h
  exact ⟨r, k1, hn, ha, fun post hq => ⟨fun _ => hp post hq, fun _ h9 => (by cases h9)⟩⟩
theorem w_o1o {A : Option Nat → ka_T → Prop} {X : (Option Nat → ka_T → Prop) → Prop} {Z : Nat → (Option Nat → ka_T → Prop) → Prop} {m t : Nat} (h : ∃ (r : Option Nat) (k1 : ka_T), (∀ n, r = some n → n < cf 0) ∧ A r k1 ∧ ∀ post : Option Nat → ka_T → Prop, post r k1 → Z t post) : ∃ (r : Option Nat) (k1 : ka_T), (∀ n, r = some n → n < cf 0) ∧ A r k1 ∧ ∀ post : Option Nat → ka_T → Prop, post r k1 → ((some t = none → X post) ∧ (∀ t9 : Nat, some t = some t9 → t9 < m → Z t9 post)) := by
  obtain ⟨r, k1, hn, ha, hp⟩ := h
  exact ⟨r, k1, hn, ha, fun post hq => ⟨fun h9 => (by cases h9), fun t9 h9 _ => (by cases h9; exact hp post hq)⟩⟩
theorem w_exo {A : Option Nat → ka_T → Prop} {Z : Nat → (Option Nat → ka_T → Prop) → Prop} (m : Nat) (h : ∃ (r : Option Nat) (k1 : ka_T), (∀ n, r = some n → n < cf 0) ∧ A r k1 ∧ ∀ post : Option Nat → ka_T → Prop, post r k1 → Z m post) : ∃ (r : Option Nat) (k1 : ka_T), (∀ n, r = some n → n < cf 0) ∧ A r k1 ∧ ∀ post : Option Nat → ka_T → Prop, post r k1 → (∃ m9 : Nat, Z m9 post) := by
  obtain ⟨r, k1, hn, ha, hp⟩ := h
  exact ⟨r, k1, hn, ha, fun post hq => ⟨m, hp post hq⟩⟩

theorem w_ddi {A : Int32 → ka_T → Prop} {X Y : (Int32 → ka_T → Prop) → Prop} (h : ∃ (r : Int32) (k1 : ka_T), A r k1 ∧ ∀ post : Int32 → ka_T → Prop, post r k1 → X post) (hm : ∀ post : Int32 → ka_T → Prop, X post → Y post) : ∃ (r : Int32) (k1 : ka_T), A r k1 ∧ ∀ post : Int32 → ka_T → Prop, post r k1 → Y post := by
  obtain ⟨r, k1, ha, hp⟩ := h
  exact ⟨r, k1, ha, fun post hq => hm _ (hp post hq)⟩
theorem w_ddv {A : ka_T → Prop} {X Y : (ka_T → Prop) → Prop} (h : ∃ k1 : ka_T, A k1 ∧ ∀ post : ka_T → Prop, post k1 → X post) (hm : ∀ post : ka_T → Prop, X post → Y post) : ∃ k1 : ka_T, A k1 ∧ ∀ post : ka_T → Prop, post k1 → Y post := by
  obtain ⟨k1, ha, hp⟩ := h
  exact ⟨k1, ha, fun post hq => hm _ (hp post hq)⟩
theorem w_ddo {A : Option Nat → ka_T → Prop} {X Y : (Option Nat → ka_T → Prop) → Prop} (h : ∃ (r : Option Nat) (k1 : ka_T), (∀ n, r = some n → n < cf 0) ∧ A r k1 ∧ ∀ post : Option Nat → ka_T → Prop, post r k1 → X post) (hm : ∀ post : Option Nat → ka_T → Prop, X post → Y post) : ∃ (r : Option Nat) (k1 : ka_T), (∀ n, r = some n → n < cf 0) ∧ A r k1 ∧ ∀ post : Option Nat → ka_T → Prop, post r k1 → Y post := by
  obtain ⟨r, k1, hn, ha, hp⟩ := h
  exact ⟨r, k1, hn, ha, fun post hq => hm _ (hp post hq)⟩
end WB
