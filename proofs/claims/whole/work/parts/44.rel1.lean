/-! The pool's memory against the reference's. -/
abbrev rK (σ τ : yM) (nk : Nat) : Prop := (nk ≤ 4) ∧ (σ 0 5 = (nk : Int)) ∧ (τ 0 2 = (nk : Int)) ∧ (∀ k, k < nk → 1 ≤ τ 3 k ∧ τ 3 k ≤ 2472) ∧ (∀ k, k < nk → σ (53 + 5 * k) 0 = τ 3 k) ∧ (∀ k, k < nk → σ (53 + 5 * k) 1 = eE (τ 3 k))
theorem rK.n {σ τ : yM} {nk : Nat} (h : rK σ τ nk) : nk ≤ 4 := h.1
theorem rK.a {σ τ : yM} {nk : Nat} (h : rK σ τ nk) : σ 0 5 = (nk : Int) := h.2.1
theorem rK.b {σ τ : yM} {nk : Nat} (h : rK σ τ nk) : τ 0 2 = (nk : Int) := h.2.2.1
theorem rK.sec {σ τ : yM} {nk : Nat} (h : rK σ τ nk) : ∀ k, k < nk → 1 ≤ τ 3 k ∧ τ 3 k ≤ 2472 := h.2.2.2.1
theorem rK.s0 {σ τ : yM} {nk : Nat} (h : rK σ τ nk) : ∀ k, k < nk → σ (53 + 5 * k) 0 = τ 3 k := h.2.2.2.2.1
theorem rK.s1 {σ τ : yM} {nk : Nat} (h : rK σ τ nk) : ∀ k, k < nk → σ (53 + 5 * k) 1 = eE (τ 3 k) := h.2.2.2.2.2
abbrev rB (σ τ : yM) (nb fl : Nat) (up sc : Nat → Nat) : Prop := (nb ≤ 12) ∧ (σ 17 2 = (nb : Int)) ∧ (τ 0 24 = (nb : Int)) ∧ (fl ≤ 16) ∧ (σ 12 5 = (fl : Int)) ∧ (fl = (if nb = 0 then 0 else up (nb - 1))) ∧ (∀ b, b < nb → τ 20 b = (up b : Int)) ∧ (∀ b, b + 1 < nb → up b ≤ up (b + 1)) ∧ (∀ b, b < nb → up b ≤ fl) ∧ (∀ b, b < nb → σ (19 + 2 * b) 2 = ((up b - (if b = 0 then 0 else up (b - 1)) : Nat) : Int)) ∧ (∀ b, b < nb → σ (19 + 2 * b) 3 = τ 21 b) ∧ (∀ b, b < nb → -9999 ≤ τ 21 b ∧ τ 21 b ≤ 9999) ∧ (σ 17 3 = -(sm (τ 21) nb)) ∧ (∀ b, b < nb → sc b ≤ 2 ∧ σ (19 + 2 * b) 1 = (sc b : Int)) ∧ (∀ b, b < nb → ∀ j, j < sc b → σ (19 + 2 * b + 1) j = τ 22 (2 * b + j) ∧ 0 ≤ τ 22 (2 * b + j) ∧ τ 22 (2 * b + j) < 10009) ∧ (∀ b, b < nb → ∀ j, sc b ≤ j → j < 2 → τ 22 (2 * b + j) = -1) ∧ (σ 17 1 = nd (fun _ => 0) 4 0) ∧ (∀ b, b < nb → σ (19 + 2 * b) 4 = nd (lfm τ (up b)) 4 0)
theorem rB.n {σ τ : yM} {nb fl : Nat} {up sc : Nat → Nat} (h : rB σ τ nb fl up sc) : nb ≤ 12 := h.1
theorem rB.a {σ τ : yM} {nb fl : Nat} {up sc : Nat → Nat} (h : rB σ τ nb fl up sc) : σ 17 2 = (nb : Int) := h.2.1
theorem rB.b {σ τ : yM} {nb fl : Nat} {up sc : Nat → Nat} (h : rB σ τ nb fl up sc) : τ 0 24 = (nb : Int) := h.2.2.1
theorem rB.fl16 {σ τ : yM} {nb fl : Nat} {up sc : Nat → Nat} (h : rB σ τ nb fl up sc) : fl ≤ 16 := h.2.2.2.1
theorem rB.fla {σ τ : yM} {nb fl : Nat} {up sc : Nat → Nat} (h : rB σ τ nb fl up sc) : σ 12 5 = (fl : Int) := h.2.2.2.2.1
theorem rB.flb {σ τ : yM} {nb fl : Nat} {up sc : Nat → Nat} (h : rB σ τ nb fl up sc) : fl = (if nb = 0 then 0 else up (nb - 1)) := h.2.2.2.2.2.1
theorem rB.u {σ τ : yM} {nb fl : Nat} {up sc : Nat → Nat} (h : rB σ τ nb fl up sc) : ∀ b, b < nb → τ 20 b = (up b : Int) := h.2.2.2.2.2.2.1
theorem rB.mono {σ τ : yM} {nb fl : Nat} {up sc : Nat → Nat} (h : rB σ τ nb fl up sc) : ∀ b, b + 1 < nb → up b ≤ up (b + 1) := h.2.2.2.2.2.2.2.1
theorem rB.ufl {σ τ : yM} {nb fl : Nat} {up sc : Nat → Nat} (h : rB σ τ nb fl up sc) : ∀ b, b < nb → up b ≤ fl := h.2.2.2.2.2.2.2.2.1
theorem rB.oc {σ τ : yM} {nb fl : Nat} {up sc : Nat → Nat} (h : rB σ τ nb fl up sc) : ∀ b, b < nb → σ (19 + 2 * b) 2 = ((up b - (if b = 0 then 0 else up (b - 1)) : Nat) : Int) := h.2.2.2.2.2.2.2.2.2.1
theorem rB.bal {σ τ : yM} {nb fl : Nat} {up sc : Nat → Nat} (h : rB σ τ nb fl up sc) : ∀ b, b < nb → σ (19 + 2 * b) 3 = τ 21 b := h.2.2.2.2.2.2.2.2.2.2.1
theorem rB.balr {σ τ : yM} {nb fl : Nat} {up sc : Nat → Nat} (h : rB σ τ nb fl up sc) : ∀ b, b < nb → -9999 ≤ τ 21 b ∧ τ 21 b ≤ 9999 := h.2.2.2.2.2.2.2.2.2.2.2.1
theorem rB.con {σ τ : yM} {nb fl : Nat} {up sc : Nat → Nat} (h : rB σ τ nb fl up sc) : σ 17 3 = -(sm (τ 21) nb) := h.2.2.2.2.2.2.2.2.2.2.2.2.1
theorem rB.s {σ τ : yM} {nb fl : Nat} {up sc : Nat → Nat} (h : rB σ τ nb fl up sc) : ∀ b, b < nb → sc b ≤ 2 ∧ σ (19 + 2 * b) 1 = (sc b : Int) := h.2.2.2.2.2.2.2.2.2.2.2.2.2.1
theorem rB.nu {σ τ : yM} {nb fl : Nat} {up sc : Nat → Nat} (h : rB σ τ nb fl up sc) : ∀ b, b < nb → ∀ j, j < sc b → σ (19 + 2 * b + 1) j = τ 22 (2 * b + j) ∧ 0 ≤ τ 22 (2 * b + j) ∧ τ 22 (2 * b + j) < 10009 := h.2.2.2.2.2.2.2.2.2.2.2.2.2.2.1
theorem rB.nn {σ τ : yM} {nb fl : Nat} {up sc : Nat → Nat} (h : rB σ τ nb fl up sc) : ∀ b, b < nb → ∀ j, sc b ≤ j → j < 2 → τ 22 (2 * b + j) = -1 := h.2.2.2.2.2.2.2.2.2.2.2.2.2.2.2.1
theorem rB.r0 {σ τ : yM} {nb fl : Nat} {up sc : Nat → Nat} (h : rB σ τ nb fl up sc) : σ 17 1 = nd (fun _ => 0) 4 0 := h.2.2.2.2.2.2.2.2.2.2.2.2.2.2.2.2.1
theorem rB.r {σ τ : yM} {nb fl : Nat} {up sc : Nat → Nat} (h : rB σ τ nb fl up sc) : ∀ b, b < nb → σ (19 + 2 * b) 4 = nd (lfm τ (up b)) 4 0 := h.2.2.2.2.2.2.2.2.2.2.2.2.2.2.2.2.2
abbrev rT (σ τ : yM) (fl : Nat) : Prop := (yTr σ (lfm τ fl)) ∧ (∀ i, i < fl → 0 ≤ τ 23 i ∧ τ 23 i < 10009) ∧ (∀ i, i < fl → σ 16 i = eE (τ 24 i)) ∧ (∀ i, i < fl → σ 14 i = τ 25 i) ∧ (∀ i, i < fl → σ 15 i = τ 26 i) ∧ (∀ i, i < fl → (0 ≤ τ 24 i ∧ τ 24 i < 2473) ∧ (0 ≤ τ 25 i ∧ τ 25 i < 1000) ∧ (0 ≤ τ 26 i ∧ τ 26 i < 2473))
theorem rT.t {σ τ : yM} {fl : Nat} (h : rT σ τ fl) : yTr σ (lfm τ fl) := h.1
theorem rT.lr {σ τ : yM} {fl : Nat} (h : rT σ τ fl) : ∀ i, i < fl → 0 ≤ τ 23 i ∧ τ 23 i < 10009 := h.2.1
theorem rT.op {σ τ : yM} {fl : Nat} (h : rT σ τ fl) : ∀ i, i < fl → σ 16 i = eE (τ 24 i) := h.2.2.1
theorem rT.f {σ τ : yM} {fl : Nat} (h : rT σ τ fl) : ∀ i, i < fl → σ 14 i = τ 25 i := h.2.2.2.1
theorem rT.g {σ τ : yM} {fl : Nat} (h : rT σ τ fl) : ∀ i, i < fl → σ 15 i = τ 26 i := h.2.2.2.2.1
theorem rT.ld {σ τ : yM} {fl : Nat} (h : rT σ τ fl) : ∀ i, i < fl → (0 ≤ τ 24 i ∧ τ 24 i < 2473) ∧ (0 ≤ τ 25 i ∧ τ 25 i < 1000) ∧ (0 ≤ τ 26 i ∧ τ 26 i < 2473) := h.2.2.2.2.2
def rS (σ τ : yM) (nk fl : Nat) : Prop := ∀ k, k < nk → ∀ i, i < fl → kSee σ (53 + 5 * k) (τ 3 k) (τ 24 i) (τ 25 i) (τ 26 i) (τ 23 i) i
abbrev rSp (σ τ : yM) (nk j : Nat) : Prop := (∃ k, k < nk ∧ τ 4 j = ((k : Nat) : Int) ∧ σ (46 + 2 * j) 0 = τ 3 k ∧ σ (46 + 2 * j) 1 = eE (τ 3 k)) ∧ (∃ i, i < 16 ∧ τ 5 j = ((i : Nat) : Int) ∧ σ (46 + 2 * j) 2 = ((i : Nat) : Int)) ∧ (σ (46 + 2 * j) 3 = τ 6 j) ∧ (0 ≤ τ 6 j ∧ τ 6 j < 1000) ∧ (σ (46 + 2 * j) 4 = τ 7 j) ∧ (0 ≤ τ 7 j ∧ τ 7 j < 2473) ∧ (σ (46 + 2 * j) 5 = τ 8 j) ∧ (0 ≤ τ 8 j ∧ τ 8 j ≤ 2472) ∧ (σ (46 + 2 * j) 7 = τ 9 j) ∧ (0 ≤ τ 9 j ∧ τ 9 j < 10009) ∧ (σ (46 + 2 * j) 8 = τ 10 j) ∧ (σ (46 + 2 * j) 9 = eE (1281 * τ 6 j + 1369 * τ 8 j)) ∧ (∀ L, L < 4 → σ (46 + 2 * j + 1) L = τ 11 (4 * j + L)) ∧ (∀ L, L < 4 → 0 ≤ τ 11 (4 * j + L) ∧ τ 11 (4 * j + L) < 10009)
theorem rSp.kk {σ τ : yM} {nk j : Nat} (h : rSp σ τ nk j) : ∃ k, k < nk ∧ τ 4 j = ((k : Nat) : Int) ∧ σ (46 + 2 * j) 0 = τ 3 k ∧ σ (46 + 2 * j) 1 = eE (τ 3 k) := h.1
theorem rSp.ll {σ τ : yM} {nk j : Nat} (h : rSp σ τ nk j) : ∃ i, i < 16 ∧ τ 5 j = ((i : Nat) : Int) ∧ σ (46 + 2 * j) 2 = ((i : Nat) : Int) := h.2.1
theorem rSp.v {σ τ : yM} {nk j : Nat} (h : rSp σ τ nk j) : σ (46 + 2 * j) 3 = τ 6 j := h.2.2.1
theorem rSp.vr {σ τ : yM} {nk j : Nat} (h : rSp σ τ nk j) : 0 ≤ τ 6 j ∧ τ 6 j < 1000 := h.2.2.2.1
theorem rSp.t {σ τ : yM} {nk j : Nat} (h : rSp σ τ nk j) : σ (46 + 2 * j) 4 = τ 7 j := h.2.2.2.2.1
theorem rSp.tr {σ τ : yM} {nk j : Nat} (h : rSp σ τ nk j) : 0 ≤ τ 7 j ∧ τ 7 j < 2473 := h.2.2.2.2.2.1
theorem rSp.w {σ τ : yM} {nk j : Nat} (h : rSp σ τ nk j) : σ (46 + 2 * j) 5 = τ 8 j := h.2.2.2.2.2.2.1
theorem rSp.wr {σ τ : yM} {nk j : Nat} (h : rSp σ τ nk j) : 0 ≤ τ 8 j ∧ τ 8 j ≤ 2472 := h.2.2.2.2.2.2.2.1
theorem rSp.a {σ τ : yM} {nk j : Nat} (h : rSp σ τ nk j) : σ (46 + 2 * j) 7 = τ 9 j := h.2.2.2.2.2.2.2.2.1
theorem rSp.ar {σ τ : yM} {nk j : Nat} (h : rSp σ τ nk j) : 0 ≤ τ 9 j ∧ τ 9 j < 10009 := h.2.2.2.2.2.2.2.2.2.1
theorem rSp.nl {σ τ : yM} {nk j : Nat} (h : rSp σ τ nk j) : σ (46 + 2 * j) 8 = τ 10 j := h.2.2.2.2.2.2.2.2.2.2.1
theorem rSp.cv {σ τ : yM} {nk j : Nat} (h : rSp σ τ nk j) : σ (46 + 2 * j) 9 = eE (1281 * τ 6 j + 1369 * τ 8 j) := h.2.2.2.2.2.2.2.2.2.2.2.1
theorem rSp.p {σ τ : yM} {nk j : Nat} (h : rSp σ τ nk j) : ∀ L, L < 4 → σ (46 + 2 * j + 1) L = τ 11 (4 * j + L) := h.2.2.2.2.2.2.2.2.2.2.2.2.1
theorem rSp.pr {σ τ : yM} {nk j : Nat} (h : rSp σ τ nk j) : ∀ L, L < 4 → 0 ≤ τ 11 (4 * j + L) ∧ τ 11 (4 * j + L) < 10009 := h.2.2.2.2.2.2.2.2.2.2.2.2.2
abbrev rOu (σ τ : yM) (nk j : Nat) : Prop := (∃ k, k < nk ∧ τ 12 j = ((k : Nat) : Int) ∧ σ (50 + j) 0 = eE (τ 3 k)) ∧ (σ (50 + j) 1 = τ 13 j) ∧ (0 ≤ τ 13 j ∧ τ 13 j < 1000) ∧ (σ (50 + j) 2 = τ 14 j) ∧ (0 ≤ τ 14 j ∧ τ 14 j < 2473) ∧ (σ (50 + j) 3 = τ 16 j) ∧ (0 ≤ τ 16 j ∧ τ 16 j < 10009) ∧ (σ (50 + j) 4 = eE (τ 17 j)) ∧ (0 ≤ τ 17 j ∧ τ 17 j < 2473) ∧ (σ (50 + j) 5 = τ 18 j) ∧ (0 ≤ τ 18 j ∧ τ 18 j < 1000) ∧ (σ (50 + j) 6 = τ 19 j) ∧ (0 ≤ τ 19 j ∧ τ 19 j < 2473) ∧ (σ (50 + j) 7 = τ 15 j) ∧ (0 ≤ τ 15 j ∧ τ 15 j ≤ 2472) ∧ (σ (50 + j) 8 = eE (1281 * τ 13 j + 1369 * τ 15 j))
theorem rOu.kk {σ τ : yM} {nk j : Nat} (h : rOu σ τ nk j) : ∃ k, k < nk ∧ τ 12 j = ((k : Nat) : Int) ∧ σ (50 + j) 0 = eE (τ 3 k) := h.1
theorem rOu.v {σ τ : yM} {nk j : Nat} (h : rOu σ τ nk j) : σ (50 + j) 1 = τ 13 j := h.2.1
theorem rOu.vr {σ τ : yM} {nk j : Nat} (h : rOu σ τ nk j) : 0 ≤ τ 13 j ∧ τ 13 j < 1000 := h.2.2.1
theorem rOu.t {σ τ : yM} {nk j : Nat} (h : rOu σ τ nk j) : σ (50 + j) 2 = τ 14 j := h.2.2.2.1
theorem rOu.tr {σ τ : yM} {nk j : Nat} (h : rOu σ τ nk j) : 0 ≤ τ 14 j ∧ τ 14 j < 2473 := h.2.2.2.2.1
theorem rOu.c {σ τ : yM} {nk j : Nat} (h : rOu σ τ nk j) : σ (50 + j) 3 = τ 16 j := h.2.2.2.2.2.1
theorem rOu.cr {σ τ : yM} {nk j : Nat} (h : rOu σ τ nk j) : 0 ≤ τ 16 j ∧ τ 16 j < 10009 := h.2.2.2.2.2.2.1
theorem rOu.e {σ τ : yM} {nk j : Nat} (h : rOu σ τ nk j) : σ (50 + j) 4 = eE (τ 17 j) := h.2.2.2.2.2.2.2.1
theorem rOu.er {σ τ : yM} {nk j : Nat} (h : rOu σ τ nk j) : 0 ≤ τ 17 j ∧ τ 17 j < 2473 := h.2.2.2.2.2.2.2.2.1
theorem rOu.f {σ τ : yM} {nk j : Nat} (h : rOu σ τ nk j) : σ (50 + j) 5 = τ 18 j := h.2.2.2.2.2.2.2.2.2.1
theorem rOu.fr {σ τ : yM} {nk j : Nat} (h : rOu σ τ nk j) : 0 ≤ τ 18 j ∧ τ 18 j < 1000 := h.2.2.2.2.2.2.2.2.2.2.1
theorem rOu.g {σ τ : yM} {nk j : Nat} (h : rOu σ τ nk j) : σ (50 + j) 6 = τ 19 j := h.2.2.2.2.2.2.2.2.2.2.2.1
theorem rOu.gr {σ τ : yM} {nk j : Nat} (h : rOu σ τ nk j) : 0 ≤ τ 19 j ∧ τ 19 j < 2473 := h.2.2.2.2.2.2.2.2.2.2.2.2.1
theorem rOu.w {σ τ : yM} {nk j : Nat} (h : rOu σ τ nk j) : σ (50 + j) 7 = τ 15 j := h.2.2.2.2.2.2.2.2.2.2.2.2.2.1
theorem rOu.wr {σ τ : yM} {nk j : Nat} (h : rOu σ τ nk j) : 0 ≤ τ 15 j ∧ τ 15 j ≤ 2472 := h.2.2.2.2.2.2.2.2.2.2.2.2.2.2.1
theorem rOu.cv {σ τ : yM} {nk j : Nat} (h : rOu σ τ nk j) : σ (50 + j) 8 = eE (1281 * τ 13 j + 1369 * τ 15 j) := h.2.2.2.2.2.2.2.2.2.2.2.2.2.2.2
abbrev rD (σ τ : yM) (nk ns no : Nat) : Prop := (ns ≤ 2) ∧ (no ≤ 2) ∧ (σ 43 2 = (ns : Int)) ∧ (τ 0 4 = (ns : Int)) ∧ (σ 43 3 = (no : Int)) ∧ (τ 0 13 = (no : Int)) ∧ (σ 43 4 = τ 0 22) ∧ (-9999 ≤ τ 0 22 ∧ τ 0 22 ≤ 9999) ∧ (σ 43 5 = τ 0 23) ∧ (0 ≤ τ 0 23 ∧ τ 0 23 < 2473) ∧ (∀ j, j < ns → rSp σ τ nk j) ∧ (∀ j, j < no → rOu σ τ nk j) ∧ (∀ j, j < 2 → 0 ≤ σ (46 + 2 * j) 8 ∧ σ (46 + 2 * j) 8 < 10009) ∧ (∀ j, j < 2 → 0 ≤ σ (46 + 2 * j) 5 ∧ σ (46 + 2 * j) 5 ≤ 2472) ∧ (∀ j, j < 2 → 0 ≤ τ 10 j ∧ τ 10 j < 10009)
theorem rD.n2 {σ τ : yM} {nk ns no : Nat} (h : rD σ τ nk ns no) : ns ≤ 2 := h.1
theorem rD.o2 {σ τ : yM} {nk ns no : Nat} (h : rD σ τ nk ns no) : no ≤ 2 := h.2.1
theorem rD.a {σ τ : yM} {nk ns no : Nat} (h : rD σ τ nk ns no) : σ 43 2 = (ns : Int) := h.2.2.1
theorem rD.b {σ τ : yM} {nk ns no : Nat} (h : rD σ τ nk ns no) : τ 0 4 = (ns : Int) := h.2.2.2.1
theorem rD.c {σ τ : yM} {nk ns no : Nat} (h : rD σ τ nk ns no) : σ 43 3 = (no : Int) := h.2.2.2.2.1
theorem rD.d {σ τ : yM} {nk ns no : Nat} (h : rD σ τ nk ns no) : τ 0 13 = (no : Int) := h.2.2.2.2.2.1
theorem rD.bal {σ τ : yM} {nk ns no : Nat} (h : rD σ τ nk ns no) : σ 43 4 = τ 0 22 := h.2.2.2.2.2.2.1
theorem rD.balr {σ τ : yM} {nk ns no : Nat} (h : rD σ τ nk ns no) : -9999 ≤ τ 0 22 ∧ τ 0 22 ≤ 9999 := h.2.2.2.2.2.2.2.1
theorem rD.tu {σ τ : yM} {nk ns no : Nat} (h : rD σ τ nk ns no) : σ 43 5 = τ 0 23 := h.2.2.2.2.2.2.2.2.1
theorem rD.tur {σ τ : yM} {nk ns no : Nat} (h : rD σ τ nk ns no) : 0 ≤ τ 0 23 ∧ τ 0 23 < 2473 := h.2.2.2.2.2.2.2.2.2.1
theorem rD.sp {σ τ : yM} {nk ns no : Nat} (h : rD σ τ nk ns no) : ∀ j, j < ns → rSp σ τ nk j := h.2.2.2.2.2.2.2.2.2.2.1
theorem rD.ou {σ τ : yM} {nk ns no : Nat} (h : rD σ τ nk ns no) : ∀ j, j < no → rOu σ τ nk j := h.2.2.2.2.2.2.2.2.2.2.2.1
theorem rD.s8 {σ τ : yM} {nk ns no : Nat} (h : rD σ τ nk ns no) : ∀ j, j < 2 → 0 ≤ σ (46 + 2 * j) 8 ∧ σ (46 + 2 * j) 8 < 10009 := h.2.2.2.2.2.2.2.2.2.2.2.2.1
theorem rD.s5 {σ τ : yM} {nk ns no : Nat} (h : rD σ τ nk ns no) : ∀ j, j < 2 → 0 ≤ σ (46 + 2 * j) 5 ∧ σ (46 + 2 * j) 5 ≤ 2472 := h.2.2.2.2.2.2.2.2.2.2.2.2.2.1
theorem rD.m10 {σ τ : yM} {nk ns no : Nat} (h : rD σ τ nk ns no) : ∀ j, j < 2 → 0 ≤ τ 10 j ∧ τ 10 j < 10009 := h.2.2.2.2.2.2.2.2.2.2.2.2.2.2
abbrev RC (σ τ : yM) (nk nb fl ns no : Nat) (up sc : Nat → Nat) : Prop := (yBs σ) ∧ (mTb τ) ∧ (rK σ τ nk) ∧ (rB σ τ nb fl up sc) ∧ (rT σ τ fl) ∧ (rS σ τ nk fl) ∧ (rD σ τ nk ns no)
theorem RC.hBs {σ τ : yM} {nk nb fl ns no : Nat} {up sc : Nat → Nat} (h : RC σ τ nk nb fl ns no up sc) : yBs σ := h.1
theorem RC.hTb {σ τ : yM} {nk nb fl ns no : Nat} {up sc : Nat → Nat} (h : RC σ τ nk nb fl ns no up sc) : mTb τ := h.2.1
theorem RC.K {σ τ : yM} {nk nb fl ns no : Nat} {up sc : Nat → Nat} (h : RC σ τ nk nb fl ns no up sc) : rK σ τ nk := h.2.2.1
theorem RC.B {σ τ : yM} {nk nb fl ns no : Nat} {up sc : Nat → Nat} (h : RC σ τ nk nb fl ns no up sc) : rB σ τ nb fl up sc := h.2.2.2.1
theorem RC.T {σ τ : yM} {nk nb fl ns no : Nat} {up sc : Nat → Nat} (h : RC σ τ nk nb fl ns no up sc) : rT σ τ fl := h.2.2.2.2.1
theorem RC.S {σ τ : yM} {nk nb fl ns no : Nat} {up sc : Nat → Nat} (h : RC σ τ nk nb fl ns no up sc) : rS σ τ nk fl := h.2.2.2.2.2.1
theorem RC.D {σ τ : yM} {nk nb fl ns no : Nat} {up sc : Nat → Nat} (h : RC σ τ nk nb fl ns no up sc) : rD σ τ nk ns no := h.2.2.2.2.2.2
section RQ
variable {σ τ : yM} {nk nb fl ns no : Nat} {up sc : Nat → Nat}
theorem RC.flm (h : RC σ τ nk nb fl ns no up sc) : (if nb = 0 then 0 else τ 20 (nb - 1)) = (fl : Int) := by
  have h1 := h.B.flb
  by_cases e : nb = 0
  · rw [if_pos e] at h1 ⊢; omega
  · rw [if_neg e] at h1 ⊢; rw [h.B.u _ (by omega), h1]
theorem RC.hsh (h : RC σ τ nk nb fl ns no up sc) : ∀ i, i < 2 * nb → jr (τ 22 i) := fun i hi => by
  have hb : i / 2 < nb := by omega
  by_cases e : i % 2 < sc (i / 2)
  · have := (h.B.nu _ hb _ e).2
    rw [show 2 * (i / 2) + i % 2 = i by omega] at this
    exact ⟨by omega, by omega⟩
  · have := h.B.nn _ hb (i % 2) (by omega) (by omega)
    rw [show 2 * (i / 2) + i % 2 = i by omega] at this
    rw [this]
    exact ⟨by omega, by omega⟩
theorem jr_of {x : Int} {N : Int} (h : 0 ≤ x ∧ x < N) (hN : N ≤ 2147483648) : jr x := ⟨by omega, by omega⟩
theorem RC.fnd (h : RC σ τ nk nb fl ns no up sc) : ∀ k, k < nk → ∀ i, i < fl → σ (53 + 5 * k + 1) i = 0 ∨ σ (53 + 5 * k + 1) i = 1 := fun k hk i hi => by
  rw [(h.S k hk i hi).1]
  split
  · exact Or.inr rfl
  · exact Or.inl rfl
theorem RC.fin (h : RC σ τ nk nb fl ns no up sc) (k i : Int) : finP σ nk fl k i ↔ finM τ nk fl k i := by
  unfold finP finM
  constructor
  · rintro ⟨h1, h2, h3⟩
    refine ⟨h1, h2, ?_⟩
    rw [(h.S k.toNat (by omega) i.toNat (by omega)).1] at h3
    split at h3
    · assumption
    · exact absurd h3 (by decide)
  · rintro ⟨h1, h2, h3⟩
    refine ⟨h1, h2, ?_⟩
    rw [(h.S k.toNat (by omega) i.toNat (by omega)).1, if_pos h3]
theorem RC.nr (h : RC σ τ nk nb fl ns no up sc) : ∀ i, i < nb → ∀ j, j < sc i → jr (σ (19 + 2 * i + 1) j) := fun i hi j hj => by
  have := h.B.nu i hi j hj
  rw [this.1]
  exact jr_of this.2 (by decide)
theorem RC.rev (h : RC σ τ nk nb fl ns no up sc) (x : Int) : revB σ sc x nb ↔ revM τ x (2 * nb) := by
  unfold revB revM
  constructor
  · rintro ⟨b, hb, j, hj, e⟩
    have h1 := h.B.nu b hb j hj
    have h2 := (h.B.s b hb).1
    rw [h1.1] at e
    exact ⟨by omega, 2 * b + j, by omega, e⟩
  · rintro ⟨h0, i, hi, e⟩
    have hb : i / 2 < nb := by omega
    by_cases e2 : i % 2 < sc (i / 2)
    · refine ⟨i / 2, hb, i % 2, e2, ?_⟩
      rw [(h.B.nu _ hb _ e2).1, show 2 * (i / 2) + i % 2 = i by omega]
      exact e
    · have := h.B.nn _ hb (i % 2) (by omega) (by omega)
      rw [show 2 * (i / 2) + i % 2 = i by omega] at this
      omega
theorem cif_c {p q : Prop} {a b : Int} (h : p ↔ q) : cif p a b = cif q a b := by rw [propext h]
theorem RC.nul (h : RC σ τ nk nb fl ns no up sc) : ∀ k, k < nk → ∀ i, i < fl → jr (σ (53 + 5 * k + 4) i) := fun k hk i hi => by
  rw [(h.S k hk i hi).2.2.2]
  exact jr_of (nOf_rng _ _) (by decide)
theorem RC.val (h : RC σ τ nk nb fl ns no up sc) : ∀ k, k < nk → ∀ i, i < fl → jr (σ (53 + 5 * k + 2) i) := fun k hk i hi => by
  rw [(h.S k hk i hi).2.1]
  exact jr_of (vOf_rng _ _ _) (by decide)
/-! The answers that change nothing. -/
theorem RC.q_node (h : RC σ τ nk nb fl ns no up sc) (a b : Int) : (if 0 ≤ a ∧ a ≤ 4 ∧ 0 ≤ b ∧ b < ((16 / 2 ^ a.toNat : Nat) : Int) then σ 13 (tpl a.toNat b.toNat) else -1) = (if 0 ≤ a ∧ a ≤ 4 ∧ 0 ≤ b ∧ b < ((16 / 2 ^ a.toNat : Nat) : Int) then nd (lfm τ fl) a.toNat b.toNat else -1) := by
  by_cases hc : 0 ≤ a ∧ a ≤ 4 ∧ 0 ≤ b ∧ b < ((16 / 2 ^ a.toNat : Nat) : Int)
  · rw [if_pos hc, if_pos hc]
    exact h.T.t a.toNat b.toNat (by omega) (by omega)
  · rw [if_neg hc, if_neg hc]
theorem RC.q_note (h : RC σ τ nk nb fl ns no up sc) (k i c9 : Int) : cif (finP σ nk fl k i) (if c9 = 0 then σ (53 + 5 * k.toNat + 2) i.toNat else if c9 = 1 then σ (53 + 5 * k.toNat + 3) i.toNat else if c9 = 2 then b01 (revB σ sc (σ (53 + 5 * k.toNat + 4) i.toNat) nb) else if c9 = 3 then σ (53 + 5 * k.toNat + 4) i.toNat else -1) (-1) = cif (finM τ nk fl k i ∧ 0 ≤ c9 ∧ c9 ≤ 3) (if c9 = 0 then vOf (τ 3 k.toNat) (τ 24 i.toNat) (τ 25 i.toNat) else if c9 = 1 then tOf (τ 3 k.toNat) (τ 24 i.toNat) (τ 26 i.toNat) else if c9 = 3 then nOf (τ 3 k.toNat) i else b01 (revM τ (nOf (τ 3 k.toNat) i) (2 * nb))) (-1) := by
  by_cases hf : finP σ nk fl k i
  · have hm := (h.fin k i).mp hf
    obtain ⟨g1, g2, g3⟩ := hf
    obtain ⟨s1, s2, s3, s4⟩ := h.S k.toNat (by omega) i.toNat (by omega)
    rw [show ((i.toNat : Nat) : Int) = i by omega] at s4
    rw [cif_t ⟨g1, g2, g3⟩, s2, s3, s4, b01_c (h.rev _)]
    by_cases h0 : c9 = 0
    · rw [cif_t ⟨hm, by omega⟩, if_pos h0, if_pos h0]
    · rw [if_neg h0]
      by_cases h1 : c9 = 1
      · rw [cif_t ⟨hm, by omega⟩, if_neg h0, if_pos h1, if_pos h1]
      · rw [if_neg h1]
        by_cases h2 : c9 = 2
        · rw [cif_t ⟨hm, by omega⟩, if_neg h0, if_neg h1, if_pos h2, if_neg (by omega)]
        · rw [if_neg h2]
          by_cases h3 : c9 = 3
          · rw [cif_t ⟨hm, by omega⟩, if_neg h0, if_neg h1, if_pos h3, if_pos h3]
          · rw [if_neg h3, cif_f (fun hh => by have := hh.2; omega)]
  · rw [cif_f hf, cif_f (fun hh => hf ((h.fin k i).mpr hh.1))]
theorem sm_cg {f g : Nat → Int} : ∀ {n : Nat}, (∀ j, j < n → f j = g j) → sm f n = sm g n
  | 0, _ => rfl
  | n + 1, h => by
    show sm f n + f n = sm g n + g n
    rw [sm_cg (fun j hj => h j (by omega)), h n (by omega)]
theorem sm_z {g : Nat → Int} {m : Nat} : ∀ {n : Nat}, m ≤ n → (∀ j, m ≤ j → j < n → g j = 0) → sm g n = sm g m
  | 0, h, _ => by rw [show m = 0 by omega]
  | n + 1, h, hz => by
    by_cases e : m = n + 1
    · rw [e]
    · show sm g n + g n = _
      rw [sm_z (n := n) (by omega) (fun j h1 h2 => hz j h1 (by omega)), hz n (by omega) (by omega)]
      omega
theorem RC.q_total (h : RC σ τ nk nb fl ns no up sc) (k : Int) : (if 0 ≤ k ∧ k < (nk : Int) then sm (fun i => cif (σ (53 + 5 * k.toNat + 1) i = 1 ∧ ¬ revB σ sc (σ (53 + 5 * k.toNat + 4) i) nb) (σ (53 + 5 * k.toNat + 2) i) 0) fl else -1) = (if 0 ≤ k ∧ k < (nk : Int) then sm (fun (j : Nat) => cif (finM τ nk fl k (j : Int) ∧ ¬ revM τ (nOf (τ 3 k.toNat) (j : Int)) (2 * nb)) (vOf (τ 3 k.toNat) (τ 24 j) (τ 25 j)) 0) 16 else -1) := by
  by_cases hk : 0 ≤ k ∧ k < (nk : Int)
  · rw [if_pos hk, if_pos hk]
    have hfl := h.B.fl16
    rw [sm_z (n := 16) (m := fl) hfl (fun j h1 _ => cif_f (fun hh => by have := hh.1.2.1; omega))]
    refine sm_cg (fun j hj => ?_)
    obtain ⟨s1, s2, s3, s4⟩ := h.S k.toNat (by omega) j hj
    have e : (σ (53 + 5 * k.toNat + 1) j = 1) ↔ finM τ nk fl k (j : Int) := by
      rw [← h.fin]
      unfold finP
      rw [Int.toNat_natCast]
      exact ⟨fun q => ⟨hk, by omega, q⟩, fun q => q.2.2⟩
    show cif _ _ _ = cif _ _ _
    rw [s2, s4]
    refine cif_c ?_
    rw [e, h.rev]
  · rw [if_neg hk, if_neg hk]
end RQ
