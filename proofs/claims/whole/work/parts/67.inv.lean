def sOK (σ : zS) (b p s g t1 t2 t3 t4 : Int) : Prop :=
  (∀ r : Int, 0 ≤ r → r ≤ 3 → (σ (p + r) 0 = 0 ∨ σ (p + r) 0 = 1) ∧ (0 ≤ σ (p + r) 1 ∧ σ (p + r) 1 ≤ 20) ∧ (0 ≤ σ (p + r) 2 ∧ σ (p + r) 2 ≤ 10) ∧ (0 ≤ σ (p + r) 3 ∧ σ (p + r) 3 ≤ 9) ∧ (0 ≤ σ (p + r) 4 ∧ σ (p + r) 4 ≤ 50) ∧ (σ (p + r) 0 = 1 → 4 ≤ σ (p + r) 2)) ∧
  ((0 ≤ σ b 7 ∧ σ b 7 ≤ 3) ∧ (0 ≤ σ b 8 ∧ σ b 8 ≤ 3) ∧ σ b 7 ≠ σ b 8 ∧ (5 ≤ σ b 9 ∧ σ b 9 ≤ 20) ∧ (0 ≤ σ b 10 ∧ σ b 10 ≤ 99) ∧ (0 ≤ σ b 11 ∧ σ b 11 ≤ 50) ∧ (1 ≤ σ b 12 ∧ σ b 12 ≤ 24) ∧ (0 ≤ σ b 13 ∧ σ b 13 ≤ 6)) ∧
  (∀ i : Int, 0 ≤ i → i < 24 → (0 ≤ σ s i ∧ σ s i ≤ 200) ∧ (-1 ≤ σ g i ∧ σ g i ≤ 6)) ∧ (∀ i : Int, 0 ≤ i → i < σ b 12 → σ g i = mSort (σ s i)) ∧
  (∀ i : Int, 0 ≤ i → i < 6 → (0 ≤ σ t1 i ∧ σ t1 i ≤ 3) ∧ (0 ≤ σ t2 i ∧ σ t2 i ≤ 4) ∧ (0 ≤ σ t3 i ∧ σ t3 i ≤ 4) ∧ (0 ≤ σ t4 i ∧ σ t4 i ≤ 300))
def sKv (σ : zS) (b p s t1 t2 t3 t4 i : Int) : Int := if i < 8 then (if i = 0 then σ p 0 + 2 * σ (p + 1) 0 + 4 * σ (p + 2) 0 + 8 * σ (p + 3) 0 else if i = 1 then σ b 7 else if i = 2 then σ b 8 else if i = 3 then σ b 9 else if i = 4 then σ b 10 else if i = 5 then σ b 11 else if i = 6 then σ b 12 else σ b 13)
  else if i < 24 then σ (p + (i - 8) / 4) (1 + (i - 8) % 4) else if i < 48 then σ s (i - 24) else if (i - 48) % 4 = 0 then σ t1 ((i - 48) / 4) else if (i - 48) % 4 = 1 then σ t2 ((i - 48) / 4) else if (i - 48) % 4 = 2 then σ t3 ((i - 48) / 4) else σ t4 ((i - 48) / 4)
def pOK (σ : zS) : Prop := (0 ≤ σ 3 1 ∧ σ 3 1 ≤ 110) ∧ ∀ i : Int, 0 ≤ i → i < 110 → 0 ≤ σ 4 i ∧ σ 4 i ≤ 126
def jEq (σ : zS) : Prop := (∀ r : Int, 0 ≤ r → r ≤ 3 → σ 101 r = σ (40 + r) 1 ∧ σ 102 r = σ (40 + r) 2 ∧ σ 103 r = σ (40 + r) 3 ∧ σ 104 r = σ (40 + r) 4) ∧
  (σ 100 0 = mBits σ ∧ σ 100 5 = σ 32 7 ∧ σ 100 6 = σ 32 8 ∧ σ 100 7 = σ 32 9 ∧ σ 100 8 = σ 32 10 ∧ σ 100 9 = σ 32 11 ∧ σ 100 11 = σ 32 12 ∧ σ 100 16 = σ 32 13) ∧
  (∀ i : Int, 0 ≤ i → i < 24 → σ 105 i = σ 34 i) ∧ (∀ i : Int, 0 ≤ i → i < 6 → σ 106 i = σ 36 i ∧ σ 107 i = σ 37 i ∧ σ 108 i = σ 38 i ∧ σ 109 i = σ 39 i)
def pEq (σ : zS) : Prop := σ 100 18 = σ 3 1 ∧ ∀ i : Int, 0 ≤ i → i < 110 → σ 110 i = σ 4 i
def sIm (σ : zS) (n b p s g t1 t2 t3 t4 : Int) : Prop := (σ 2 n = 0 ∨ σ 2 n = 1) ∧ σ 119 n = σ 2 n ∧ (∀ k : Int, p ≤ k → k ≤ p + 3 → σ k 0 = 0 ∨ σ k 0 = 1) ∧ (σ 2 n = 1 → sOK σ b p s g t1 t2 t3 t4 ∧ ∀ i : Int, 0 ≤ i → i < 72 → σ 118 (80 * n + i) = sKv σ b p s t1 t2 t3 t4 i)
def kCb (σ : zS) : Prop := (σ 15 10 = 23 ∧ σ 15 11 = 24) ∨ (σ 15 10 = 24 ∧ σ 15 11 = 23)
def jInv (σ : zS) : Prop := sOK σ 32 40 34 35 36 37 38 39 ∧ pOK σ ∧ jEq σ ∧ pEq σ ∧ sIm σ 0 48 56 50 51 52 53 54 55 ∧ sIm σ 1 64 72 66 67 68 69 70 71 ∧ kBf σ ∧ kCb σ ∧ jBd σ 115
theorem mBits_r {a b c d : Int} (ha : a = 0 ∨ a = 1) (hb : b = 0 ∨ b = 1) (hc : c = 0 ∨ c = 1) (hd : d = 0 ∨ d = 1) : (0 ≤ a + 2 * b + 4 * c + 8 * d ∧ a + 2 * b + 4 * c + 8 * d ≤ 15) ∧ mBit (a + 2 * b + 4 * c + 8 * d) 0 = a ∧ mBit (a + 2 * b + 4 * c + 8 * d) 1 = b ∧ mBit (a + 2 * b + 4 * c + 8 * d) 2 = c ∧ mBit (a + 2 * b + 4 * c + 8 * d) 3 = d := by
  rcases ha with rfl | rfl <;> rcases hb with rfl | rfl <;> rcases hc with rfl | rfl <;> rcases hd with rfl | rfl <;> decide
theorem pk_hth {σ : zS} (h : jInv σ) : ∀ r : Int, 0 ≤ r → r ≤ 3 → σ (40 + r) 0 = 0 ∨ σ (40 + r) 0 = 1 := fun r h1 h2 => (h.1.1 r h1 h2).1
theorem pk_hse {σ : zS} (h : jInv σ) : (0 ≤ σ 32 7 ∧ σ 32 7 ≤ 3) ∧ (0 ≤ σ 32 8 ∧ σ 32 8 ≤ 3) := ⟨h.1.2.1.1, h.1.2.1.2.1⟩
theorem pk_hrd {σ : zS} (h : jInv σ) : ∀ r : Int, 0 ≤ r → r ≤ 3 → (0 ≤ σ (40 + r) 1 ∧ σ (40 + r) 1 ≤ 20) ∧ (0 ≤ σ (40 + r) 2 ∧ σ (40 + r) 2 ≤ 10) ∧ (0 ≤ σ (40 + r) 3 ∧ σ (40 + r) 3 ≤ 9) ∧ (0 ≤ σ (40 + r) 4 ∧ σ (40 + r) 4 ≤ 50) := fun r h1 h2 => by have q := h.1.1 r h1 h2; exact ⟨q.2.1, q.2.2.1, q.2.2.2.1, q.2.2.2.2.1⟩
theorem pk_hn {σ : zS} (h : jInv σ) : 1 ≤ σ 32 12 ∧ σ 32 12 ≤ 24 := h.1.2.1.2.2.2.2.2.2.1
theorem pk_hg {σ : zS} (h : jInv σ) : ∀ i : Int, 0 ≤ i → i < 24 → -1 ≤ σ 35 i ∧ σ 35 i ≤ 6 := fun i h1 h2 => (h.1.2.2.1 i h1 h2).2
theorem pk_hho {σ : zS} (h : jInv σ) : 5 ≤ σ 32 9 ∧ σ 32 9 ≤ 20 := h.1.2.1.2.2.2.1
theorem pk_hpz {σ : zS} (h : jInv σ) : 0 ≤ σ 32 10 ∧ σ 32 10 ≤ 99 := h.1.2.1.2.2.2.2.1
theorem pk_hca {σ : zS} (h : jInv σ) : 0 ≤ σ 32 11 ∧ σ 32 11 ≤ 50 := h.1.2.1.2.2.2.2.2.1
theorem pk_hp {σ : zS} (h : jInv σ) : 0 ≤ σ 3 1 ∧ σ 3 1 ≤ 110 := h.2.1.1
theorem pk_hq {σ : zS} (h : jInv σ) : ∀ i : Int, 0 ≤ i → i < 110 → 0 ≤ σ 4 i ∧ σ 4 i ≤ 126 := h.2.1.2
theorem pk_htm {σ : zS} (h : jInv σ) : 0 ≤ σ 32 13 ∧ σ 32 13 ≤ 6 := h.1.2.1.2.2.2.2.2.2.2
theorem pk_hti {σ : zS} (h : jInv σ) : ∀ i : Int, 0 ≤ i → i < 6 → (0 ≤ σ 36 i ∧ σ 36 i ≤ 3) ∧ (0 ≤ σ 37 i ∧ σ 37 i ≤ 4) ∧ (0 ≤ σ 38 i ∧ σ 38 i ≤ 4) ∧ (0 ≤ σ 39 i ∧ σ 39 i ≤ 300) := h.1.2.2.2.2
theorem pk_hbf {σ : zS} (h : jInv σ) : kBf σ := h.2.2.2.2.2.2.1
theorem pk_hcf {σ : zS} (h : jInv σ) : (σ 15 10 = 23 ∧ σ 15 11 = 24) ∨ (σ 15 10 = 24 ∧ σ 15 11 = 23) := h.2.2.2.2.2.2.2.1
theorem pk_h01 {σ : zS} (h : jInv σ) : ∀ k : Int, 40 ≤ k → k ≤ 43 → σ k 0 = 0 ∨ σ k 0 = 1 := fun k h1 h2 => by have q := (h.1.1 (k - 40) (by omega) (by omega)).1; rwa [show 40 + (k - 40) = k by omega] at q
theorem pk_i0 {σ : zS} (h : jInv σ) : (σ 2 0 = 0 ∨ σ 2 0 = 1) ∧ (∀ k : Int, 56 ≤ k → k ≤ 59 → σ k 0 = 0 ∨ σ k 0 = 1) ∧ (σ 119 0 = 0 ∨ σ 119 0 = 1) := ⟨h.2.2.2.2.1.1, h.2.2.2.2.1.2.2.1, by rw [h.2.2.2.2.1.2.1]; exact h.2.2.2.2.1.1⟩
theorem pk_i1 {σ : zS} (h : jInv σ) : (σ 2 1 = 0 ∨ σ 2 1 = 1) ∧ (∀ k : Int, 72 ≤ k → k ≤ 75 → σ k 0 = 0 ∨ σ k 0 = 1) ∧ (σ 119 1 = 0 ∨ σ 119 1 = 1) := ⟨h.2.2.2.2.2.1.1, h.2.2.2.2.2.1.2.2.1, by rw [h.2.2.2.2.2.1.2.1]; exact h.2.2.2.2.2.1.1⟩
theorem iv_bit {σ : zS} (h : jInv σ) {r : Int} (h1 : 0 ≤ r) (h2 : r ≤ 3) : mBit (σ 100 0) r = σ (40 + r) 0 := by
  have q := mBits_r (h.1.1 0 (by decide) (by decide)).1 (h.1.1 1 (by decide) (by decide)).1 (h.1.1 2 (by decide) (by decide)).1 (h.1.1 3 (by decide) (by decide)).1
  rw [h.2.2.1.2.1.1]
  have e : r = 0 ∨ r = 1 ∨ r = 2 ∨ r = 3 := by omega
  rcases e with rfl | rfl | rfl | rfl
  · exact q.2.1
  · exact q.2.2.1
  · exact q.2.2.2.1
  · exact q.2.2.2.2
def jR (σ : zS) : Prop := (0 ≤ σ 100 0 ∧ σ 100 0 ≤ 15) ∧ ((0 ≤ σ 100 5 ∧ σ 100 5 ≤ 3) ∧ (0 ≤ σ 100 6 ∧ σ 100 6 ≤ 3)) ∧ (1 ≤ σ 100 11 ∧ σ 100 11 ≤ 24) ∧ (0 ≤ σ 100 18 ∧ σ 100 18 ≤ 110) ∧ (∀ i : Int, 0 ≤ i → i < 110 → 0 ≤ σ 110 i ∧ σ 110 i ≤ 126) ∧ (∀ r : Int, 0 ≤ r → r ≤ 3 → (0 ≤ σ 101 r ∧ σ 101 r ≤ 20) ∧ (0 ≤ σ 102 r ∧ σ 102 r ≤ 10) ∧ (0 ≤ σ 103 r ∧ σ 103 r ≤ 9)) ∧ (5 ≤ σ 100 7 ∧ σ 100 7 ≤ 20) ∧ (0 ≤ σ 100 8 ∧ σ 100 8 ≤ 99) ∧ (0 ≤ σ 100 9 ∧ σ 100 9 ≤ 50) ∧ (∀ i : Int, 0 ≤ i → i < 24 → 0 ≤ σ 105 i ∧ σ 105 i ≤ 200) ∧ (jBd σ 115) ∧ (∀ r : Int, 0 ≤ r → r ≤ 3 → 0 ≤ σ 104 r ∧ σ 104 r ≤ 50) ∧ (∀ r : Int, 0 ≤ r → r ≤ 3 → mBit (σ 100 0) r = 1 → 4 ≤ σ 102 r ∧ σ 102 r ≤ 10) ∧ (0 ≤ σ 100 16 ∧ σ 100 16 ≤ 6) ∧ (∀ i : Int, 0 ≤ i → i < 6 → (0 ≤ σ 106 i ∧ σ 106 i ≤ 3) ∧ (0 ≤ σ 107 i ∧ σ 107 i ≤ 4) ∧ (0 ≤ σ 108 i ∧ σ 108 i ≤ 4) ∧ (0 ≤ σ 109 i ∧ σ 109 i ≤ 300)) ∧ ((σ 119 0 = 0 ∨ σ 119 0 = 1) ∧ (σ 119 1 = 0 ∨ σ 119 1 = 1))
theorem pj_hrb {σ : zS} (h : jR σ) : 0 ≤ σ 100 0 ∧ σ 100 0 ≤ 15 := h.1
theorem pj_hse {σ : zS} (h : jR σ) : (0 ≤ σ 100 5 ∧ σ 100 5 ≤ 3) ∧ (0 ≤ σ 100 6 ∧ σ 100 6 ≤ 3) := h.2.1
theorem pj_hnm {σ : zS} (h : jR σ) : 1 ≤ σ 100 11 ∧ σ 100 11 ≤ 24 := h.2.2.1
theorem pj_hpm {σ : zS} (h : jR σ) : 0 ≤ σ 100 18 ∧ σ 100 18 ≤ 110 := h.2.2.2.1
theorem pj_hpq {σ : zS} (h : jR σ) : ∀ i : Int, 0 ≤ i → i < 110 → 0 ≤ σ 110 i ∧ σ 110 i ≤ 126 := h.2.2.2.2.1
theorem pj_hrd {σ : zS} (h : jR σ) : ∀ r : Int, 0 ≤ r → r ≤ 3 → (0 ≤ σ 101 r ∧ σ 101 r ≤ 20) ∧ (0 ≤ σ 102 r ∧ σ 102 r ≤ 10) ∧ (0 ≤ σ 103 r ∧ σ 103 r ≤ 9) := h.2.2.2.2.2.1
theorem pj_hho {σ : zS} (h : jR σ) : 5 ≤ σ 100 7 ∧ σ 100 7 ≤ 20 := h.2.2.2.2.2.2.1
theorem pj_hpz {σ : zS} (h : jR σ) : 0 ≤ σ 100 8 ∧ σ 100 8 ≤ 99 := h.2.2.2.2.2.2.2.1
theorem pj_hca {σ : zS} (h : jR σ) : 0 ≤ σ 100 9 ∧ σ 100 9 ≤ 50 := h.2.2.2.2.2.2.2.2.1
theorem pj_hch {σ : zS} (h : jR σ) : ∀ i : Int, 0 ≤ i → i < 24 → 0 ≤ σ 105 i ∧ σ 105 i ≤ 200 := h.2.2.2.2.2.2.2.2.2.1
theorem pj_h115 {σ : zS} (h : jR σ) : jBd σ 115 := h.2.2.2.2.2.2.2.2.2.2.1
theorem pj_htk {σ : zS} (h : jR σ) : ∀ r : Int, 0 ≤ r → r ≤ 3 → 0 ≤ σ 104 r ∧ σ 104 r ≤ 50 := h.2.2.2.2.2.2.2.2.2.2.2.1
theorem pj_htl {σ : zS} (h : jR σ) : ∀ r : Int, 0 ≤ r → r ≤ 3 → mBit (σ 100 0) r = 1 → 4 ≤ σ 102 r ∧ σ 102 r ≤ 10 := h.2.2.2.2.2.2.2.2.2.2.2.2.1
theorem pj_htm {σ : zS} (h : jR σ) : 0 ≤ σ 100 16 ∧ σ 100 16 ≤ 6 := h.2.2.2.2.2.2.2.2.2.2.2.2.2.1
theorem pj_hti {σ : zS} (h : jR σ) : ∀ i : Int, 0 ≤ i → i < 6 → (0 ≤ σ 106 i ∧ σ 106 i ≤ 3) ∧ (0 ≤ σ 107 i ∧ σ 107 i ≤ 4) ∧ (0 ≤ σ 108 i ∧ σ 108 i ≤ 4) ∧ (0 ≤ σ 109 i ∧ σ 109 i ≤ 300) := h.2.2.2.2.2.2.2.2.2.2.2.2.2.2.1
theorem pj_k {σ : zS} (h : jR σ) : (σ 119 0 = 0 ∨ σ 119 0 = 1) ∧ (σ 119 1 = 0 ∨ σ 119 1 = 1) := h.2.2.2.2.2.2.2.2.2.2.2.2.2.2.2
theorem jInv_R {σ : zS} (h : jInv σ) : jR σ := by
  have e2 := h.2.2.1.2.1
  have o := h.1.2.1
  have q := mBits_r (h.1.1 0 (by decide) (by decide)).1 (h.1.1 1 (by decide) (by decide)).1 (h.1.1 2 (by decide) (by decide)).1 (h.1.1 3 (by decide) (by decide)).1
  refine ⟨by rw [e2.1]; exact q.1, by rw [e2.2.1, e2.2.2.1]; exact ⟨o.1, o.2.1⟩, by rw [e2.2.2.2.2.2.2.1]; exact o.2.2.2.2.2.2.1, by rw [h.2.2.2.1.1]; exact h.2.1.1, fun i h1 h2 => by rw [h.2.2.2.1.2 i h1 h2]; exact h.2.1.2 i h1 h2, fun r h1 h2 => ?_, by rw [e2.2.2.2.1]; exact o.2.2.2.1, by rw [e2.2.2.2.2.1]; exact o.2.2.2.2.1, by rw [e2.2.2.2.2.2.1]; exact o.2.2.2.2.2.1, fun i h1 h2 => by rw [h.2.2.1.2.2.1 i h1 h2]; exact (h.1.2.2.1 i h1 h2).1, h.2.2.2.2.2.2.2.2, fun r h1 h2 => ?_, fun r h1 h2 h3 => ?_, by rw [e2.2.2.2.2.2.2.2]; exact o.2.2.2.2.2.2.2, fun i h1 h2 => ?_, (pk_i0 h).2.2, (pk_i1 h).2.2⟩
  · have a := h.1.1 r h1 h2
    have e := h.2.2.1.1 r h1 h2
    rw [e.1, e.2.1, e.2.2.1]
    exact ⟨a.2.1, a.2.2.1, a.2.2.2.1⟩
  · have a := h.1.1 r h1 h2
    have e := h.2.2.1.1 r h1 h2
    rw [e.2.2.2]
    exact a.2.2.2.2.1
  · have a := h.1.1 r h1 h2
    have e := h.2.2.1.1 r h1 h2
    rw [iv_bit h h1 h2] at h3
    rw [e.2.1]
    exact ⟨a.2.2.2.2.2 h3, a.2.2.1.2⟩
  · have e := h.2.2.1.2.2.2 i h1 h2
    rw [e.1, e.2.1, e.2.2.1, e.2.2.2]
    exact h.1.2.2.2.2 i h1 h2
theorem jR_c {σ τ : zS} (h : jR σ) (f : ∀ c : Int, 100 ≤ c → τ c = σ c) : jR τ := by
  unfold jR jBd at h ⊢
  rw [f 100 (by decide), f 101 (by decide), f 102 (by decide), f 103 (by decide), f 104 (by decide), f 105 (by decide), f 106 (by decide), f 107 (by decide), f 108 (by decide), f 109 (by decide), f 110 (by decide), f 115 (by decide), f 119 (by decide)]
  exact h
theorem sOK_c {σ τ : zS} {b p s g t1 t2 t3 t4 : Int} (h : sOK σ b p s g t1 t2 t3 t4) (f : ∀ c : Int, c = b ∨ (p ≤ c ∧ c ≤ p + 3) ∨ c = s ∨ c = g ∨ c = t1 ∨ c = t2 ∨ c = t3 ∨ c = t4 → τ c = σ c) : sOK τ b p s g t1 t2 t3 t4 := by
  unfold sOK at h ⊢
  rw [f b (by omega), f s (by omega), f g (by omega), f t1 (by omega), f t2 (by omega), f t3 (by omega), f t4 (by omega)]
  exact ⟨fun r h1 h2 => by rw [f (p + r) (by omega)]; exact h.1 r h1 h2, h.2⟩
theorem sKv_c {σ τ : zS} {b p s t1 t2 t3 t4 : Int} (f : ∀ c : Int, c = b ∨ (p ≤ c ∧ c ≤ p + 3) ∨ c = s ∨ c = t1 ∨ c = t2 ∨ c = t3 ∨ c = t4 → τ c = σ c) {i : Int} (hi : 0 ≤ i ∧ i < 72) : sKv τ b p s t1 t2 t3 t4 i = sKv σ b p s t1 t2 t3 t4 i := by
  unfold sKv
  rw [f b (by omega), f s (by omega), f t1 (by omega), f t2 (by omega), f t3 (by omega), f t4 (by omega), f p (by omega), f (p + 1) (by omega), f (p + 2) (by omega), f (p + 3) (by omega)]
  by_cases h1 : i < 8
  · rw [if_pos h1, if_pos h1]
  · rw [if_neg h1, if_neg h1]
    by_cases h2 : i < 24
    · rw [if_pos h2, if_pos h2, f (p + (i - 8) / 4) (by omega)]
    · rw [if_neg h2, if_neg h2]
theorem sIm_c {σ τ : zS} {n b p s g t1 t2 t3 t4 : Int} (h : sIm σ n b p s g t1 t2 t3 t4) (f : ∀ c : Int, c = b ∨ (p ≤ c ∧ c ≤ p + 3) ∨ c = s ∨ c = g ∨ c = t1 ∨ c = t2 ∨ c = t3 ∨ c = t4 → τ c = σ c) (f2 : τ 2 n = σ 2 n) (f3 : τ 119 n = σ 119 n) (f4 : ∀ i : Int, 0 ≤ i → i < 72 → τ 118 (80 * n + i) = σ 118 (80 * n + i)) : sIm τ n b p s g t1 t2 t3 t4 := by
  obtain ⟨h1, h2, h3, h4⟩ := h
  refine ⟨by rw [f2]; exact h1, by rw [f2, f3]; exact h2, fun k a b => by rw [f k (by omega)]; exact h3 k a b, fun q => ?_⟩
  rw [f2] at q
  have g := h4 q
  exact ⟨sOK_c g.1 f, fun i a b => by rw [f4 i a b, g.2 i a b]; exact (sKv_c (fun c hc => f c (by omega)) ⟨a, b⟩).symm⟩
theorem pOK_c {σ τ : zS} (h : pOK σ) (f3 : τ 3 = σ 3) (f4 : τ 4 = σ 4) : pOK τ := by
  unfold pOK
  rw [f3, f4]
  exact h
theorem jInv_f {σ υ : zS} (h : jInv σ) (f : ∀ c : Int, (c < 6 ∨ (32 ≤ c ∧ c < 100) ∨ (101 ≤ c ∧ c ≤ 110) ∨ c = 118 ∨ c = 119) → υ c = σ c) (f2 : ∀ j : Int, 0 ≤ j → j ≤ 18 → υ 100 j = σ 100 j) (hb : kBf υ) (hc : kCb υ) (hd : jBd υ 115) : jInv υ := by
  obtain ⟨h1, h2, h3, h4, h5, h6, _⟩ := h
  refine ⟨sOK_c h1 (fun c hc => f c (by omega)), pOK_c h2 (f 3 (by omega)) (f 4 (by omega)), ?_, ?_, sIm_c h5 (fun c hc => f c (by omega)) (by rw [f 2 (by omega)]) (by rw [f 119 (by omega)]) (fun i _ _ => by rw [f 118 (by omega)]), sIm_c h6 (fun c hc => f c (by omega)) (by rw [f 2 (by omega)]) (by rw [f 119 (by omega)]) (fun i _ _ => by rw [f 118 (by omega)]), hb, hc, hd⟩
  · unfold jEq mBits at h3 ⊢
    rw [f 101 (by omega), f 102 (by omega), f 103 (by omega), f 104 (by omega), f 105 (by omega), f 106 (by omega), f 107 (by omega), f 108 (by omega), f 109 (by omega), f 32 (by omega), f 34 (by omega), f 36 (by omega), f 37 (by omega), f 38 (by omega), f 39 (by omega), f 40 (by omega), f 41 (by omega), f 42 (by omega), f 43 (by omega), f2 0 (by omega) (by omega), f2 5 (by omega) (by omega), f2 6 (by omega) (by omega), f2 7 (by omega) (by omega), f2 8 (by omega) (by omega), f2 9 (by omega) (by omega), f2 11 (by omega) (by omega), f2 16 (by omega) (by omega)]
    exact ⟨fun r a b => by rw [f (40 + r) (by omega)]; exact h3.1 r a b, h3.2⟩
  · unfold pEq at h4 ⊢
    rw [f2 18 (by omega) (by omega), f 110 (by omega), f 3 (by omega), f 4 (by omega)]
    exact h4