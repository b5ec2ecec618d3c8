/-! the invariant of a run of calls; dec: a state with its own two counts of steps and its own end -/
def IV (B : Nat) (σ : St) : Prop := (Wd (g_ac σ)) ∧ (Wd (g_io σ)) ∧ (vp_in (g_pc σ) 4096) ∧ (vp_in (g_ov σ) 2) ∧ (vp_in (g_on σ) 2) ∧ (vp_in (g_asked σ) 2) ∧ (vp_in (g_under σ) 2) ∧ (Wd (g_test σ)) ∧ (∀ j, Wd ((g_cells σ) j)) ∧ (∀ j, Wd ((g_row σ) j)) ∧ (vp_in (g_cnt σ) 101) ∧ (vp_in (g_taken σ) 101) ∧ (vp_in (g_outs σ) 65) ∧ (vp_in (g_pts σ) B)
theorem IV.i_ac {B : Nat} {σ : St} (h : IV B σ) : Wd (g_ac σ) := h.1
theorem IV.i_io {B : Nat} {σ : St} (h : IV B σ) : Wd (g_io σ) := h.2.1
theorem IV.i_pc {B : Nat} {σ : St} (h : IV B σ) : vp_in (g_pc σ) 4096 := h.2.2.1
theorem IV.i_ov {B : Nat} {σ : St} (h : IV B σ) : vp_in (g_ov σ) 2 := h.2.2.2.1
theorem IV.i_on {B : Nat} {σ : St} (h : IV B σ) : vp_in (g_on σ) 2 := h.2.2.2.2.1
theorem IV.i_asked {B : Nat} {σ : St} (h : IV B σ) : vp_in (g_asked σ) 2 := h.2.2.2.2.2.1
theorem IV.i_under {B : Nat} {σ : St} (h : IV B σ) : vp_in (g_under σ) 2 := h.2.2.2.2.2.2.1
theorem IV.i_test {B : Nat} {σ : St} (h : IV B σ) : Wd (g_test σ) := h.2.2.2.2.2.2.2.1
theorem IV.i_cells {B : Nat} {σ : St} (h : IV B σ) : ∀ j, Wd ((g_cells σ) j) := h.2.2.2.2.2.2.2.2.1
theorem IV.i_row {B : Nat} {σ : St} (h : IV B σ) : ∀ j, Wd ((g_row σ) j) := h.2.2.2.2.2.2.2.2.2.1
theorem IV.i_cnt {B : Nat} {σ : St} (h : IV B σ) : vp_in (g_cnt σ) 101 := h.2.2.2.2.2.2.2.2.2.2.1
theorem IV.i_taken {B : Nat} {σ : St} (h : IV B σ) : vp_in (g_taken σ) 101 := h.2.2.2.2.2.2.2.2.2.2.2.1
theorem IV.i_outs {B : Nat} {σ : St} (h : IV B σ) : vp_in (g_outs σ) 65 := h.2.2.2.2.2.2.2.2.2.2.2.2.1
theorem IV.i_pts {B : Nat} {σ : St} (h : IV B σ) : vp_in (g_pts σ) B := h.2.2.2.2.2.2.2.2.2.2.2.2.2
def PF (B : Nat) (σ τ : St) : Prop := IV B τ ∧ g_t0 τ = g_t0 σ ∧ g_t7 τ = g_t7 σ
theorem PF.rf {B : Nat} {σ : St} (h : IV B σ) : PF B σ σ := ⟨h, rfl, rfl⟩
theorem PF.tr {B C : Nat} {σ τ ρ : St} (h : PF B σ τ) (k : PF C τ ρ) : PF C σ ρ := ⟨k.1, k.2.1.trans h.2.1, k.2.2.trans h.2.2⟩
theorem IV.s_ac {B : Nat} {σ : St} (h : IV B σ) {v : Int32} (hv : Wd v) : IV B (s_ac σ v) := ⟨hv, h.2.1, h.2.2.1, h.2.2.2.1, h.2.2.2.2.1, h.2.2.2.2.2.1, h.2.2.2.2.2.2.1, h.2.2.2.2.2.2.2.1, h.2.2.2.2.2.2.2.2.1, h.2.2.2.2.2.2.2.2.2.1, h.2.2.2.2.2.2.2.2.2.2.1, h.2.2.2.2.2.2.2.2.2.2.2.1, h.2.2.2.2.2.2.2.2.2.2.2.2.1, h.2.2.2.2.2.2.2.2.2.2.2.2.2⟩
theorem PF.s_ac {B : Nat} {σ τ : St} (h : PF B σ τ) {v : Int32} (hv : Wd v) : PF B σ (s_ac τ v) := ⟨h.1.s_ac hv, h.2⟩
theorem IV.s_io {B : Nat} {σ : St} (h : IV B σ) {v : Int32} (hv : Wd v) : IV B (s_io σ v) := ⟨h.1, hv, h.2.2.1, h.2.2.2.1, h.2.2.2.2.1, h.2.2.2.2.2.1, h.2.2.2.2.2.2.1, h.2.2.2.2.2.2.2.1, h.2.2.2.2.2.2.2.2.1, h.2.2.2.2.2.2.2.2.2.1, h.2.2.2.2.2.2.2.2.2.2.1, h.2.2.2.2.2.2.2.2.2.2.2.1, h.2.2.2.2.2.2.2.2.2.2.2.2.1, h.2.2.2.2.2.2.2.2.2.2.2.2.2⟩
theorem PF.s_io {B : Nat} {σ τ : St} (h : PF B σ τ) {v : Int32} (hv : Wd v) : PF B σ (s_io τ v) := ⟨h.1.s_io hv, h.2⟩
theorem IV.s_pc {B : Nat} {σ : St} (h : IV B σ) {v : Int32} (hv : vp_in v 4096) : IV B (s_pc σ v) := ⟨h.1, h.2.1, hv, h.2.2.2.1, h.2.2.2.2.1, h.2.2.2.2.2.1, h.2.2.2.2.2.2.1, h.2.2.2.2.2.2.2.1, h.2.2.2.2.2.2.2.2.1, h.2.2.2.2.2.2.2.2.2.1, h.2.2.2.2.2.2.2.2.2.2.1, h.2.2.2.2.2.2.2.2.2.2.2.1, h.2.2.2.2.2.2.2.2.2.2.2.2.1, h.2.2.2.2.2.2.2.2.2.2.2.2.2⟩
theorem PF.s_pc {B : Nat} {σ τ : St} (h : PF B σ τ) {v : Int32} (hv : vp_in v 4096) : PF B σ (s_pc τ v) := ⟨h.1.s_pc hv, h.2⟩
theorem IV.s_ov {B : Nat} {σ : St} (h : IV B σ) {v : Int32} (hv : vp_in v 2) : IV B (s_ov σ v) := ⟨h.1, h.2.1, h.2.2.1, hv, h.2.2.2.2.1, h.2.2.2.2.2.1, h.2.2.2.2.2.2.1, h.2.2.2.2.2.2.2.1, h.2.2.2.2.2.2.2.2.1, h.2.2.2.2.2.2.2.2.2.1, h.2.2.2.2.2.2.2.2.2.2.1, h.2.2.2.2.2.2.2.2.2.2.2.1, h.2.2.2.2.2.2.2.2.2.2.2.2.1, h.2.2.2.2.2.2.2.2.2.2.2.2.2⟩
theorem PF.s_ov {B : Nat} {σ τ : St} (h : PF B σ τ) {v : Int32} (hv : vp_in v 2) : PF B σ (s_ov τ v) := ⟨h.1.s_ov hv, h.2⟩
theorem IV.s_flags {B : Nat} {σ : St} (h : IV B σ) (v : Int32) : IV B (s_flags σ v) := h
theorem PF.s_flags {B : Nat} {σ τ : St} (h : PF B σ τ) (v : Int32) : PF B σ (s_flags τ v) := ⟨h.1.s_flags v, h.2⟩
theorem IV.s_on {B : Nat} {σ : St} (h : IV B σ) {v : Int32} (hv : vp_in v 2) : IV B (s_on σ v) := ⟨h.1, h.2.1, h.2.2.1, h.2.2.2.1, hv, h.2.2.2.2.2.1, h.2.2.2.2.2.2.1, h.2.2.2.2.2.2.2.1, h.2.2.2.2.2.2.2.2.1, h.2.2.2.2.2.2.2.2.2.1, h.2.2.2.2.2.2.2.2.2.2.1, h.2.2.2.2.2.2.2.2.2.2.2.1, h.2.2.2.2.2.2.2.2.2.2.2.2.1, h.2.2.2.2.2.2.2.2.2.2.2.2.2⟩
theorem PF.s_on {B : Nat} {σ τ : St} (h : PF B σ τ) {v : Int32} (hv : vp_in v 2) : PF B σ (s_on τ v) := ⟨h.1.s_on hv, h.2⟩
theorem IV.s_asked {B : Nat} {σ : St} (h : IV B σ) {v : Int32} (hv : vp_in v 2) : IV B (s_asked σ v) := ⟨h.1, h.2.1, h.2.2.1, h.2.2.2.1, h.2.2.2.2.1, hv, h.2.2.2.2.2.2.1, h.2.2.2.2.2.2.2.1, h.2.2.2.2.2.2.2.2.1, h.2.2.2.2.2.2.2.2.2.1, h.2.2.2.2.2.2.2.2.2.2.1, h.2.2.2.2.2.2.2.2.2.2.2.1, h.2.2.2.2.2.2.2.2.2.2.2.2.1, h.2.2.2.2.2.2.2.2.2.2.2.2.2⟩
theorem PF.s_asked {B : Nat} {σ τ : St} (h : PF B σ τ) {v : Int32} (hv : vp_in v 2) : PF B σ (s_asked τ v) := ⟨h.1.s_asked hv, h.2⟩
theorem IV.s_under {B : Nat} {σ : St} (h : IV B σ) {v : Int32} (hv : vp_in v 2) : IV B (s_under σ v) := ⟨h.1, h.2.1, h.2.2.1, h.2.2.2.1, h.2.2.2.2.1, h.2.2.2.2.2.1, hv, h.2.2.2.2.2.2.2.1, h.2.2.2.2.2.2.2.2.1, h.2.2.2.2.2.2.2.2.2.1, h.2.2.2.2.2.2.2.2.2.2.1, h.2.2.2.2.2.2.2.2.2.2.2.1, h.2.2.2.2.2.2.2.2.2.2.2.2.1, h.2.2.2.2.2.2.2.2.2.2.2.2.2⟩
theorem PF.s_under {B : Nat} {σ τ : St} (h : PF B σ τ) {v : Int32} (hv : vp_in v 2) : PF B σ (s_under τ v) := ⟨h.1.s_under hv, h.2⟩
theorem IV.s_sw {B : Nat} {σ : St} (h : IV B σ) (v : Int32) : IV B (s_sw σ v) := h
theorem PF.s_sw {B : Nat} {σ τ : St} (h : PF B σ τ) (v : Int32) : PF B σ (s_sw τ v) := ⟨h.1.s_sw v, h.2⟩
theorem IV.s_test {B : Nat} {σ : St} (h : IV B σ) {v : Int32} (hv : Wd v) : IV B (s_test σ v) := ⟨h.1, h.2.1, h.2.2.1, h.2.2.2.1, h.2.2.2.2.1, h.2.2.2.2.2.1, h.2.2.2.2.2.2.1, hv, h.2.2.2.2.2.2.2.2.1, h.2.2.2.2.2.2.2.2.2.1, h.2.2.2.2.2.2.2.2.2.2.1, h.2.2.2.2.2.2.2.2.2.2.2.1, h.2.2.2.2.2.2.2.2.2.2.2.2.1, h.2.2.2.2.2.2.2.2.2.2.2.2.2⟩
theorem PF.s_test {B : Nat} {σ τ : St} (h : PF B σ τ) {v : Int32} (hv : Wd v) : PF B σ (s_test τ v) := ⟨h.1.s_test hv, h.2⟩
theorem IV.s_cells {B : Nat} {σ : St} (h : IV B σ) {v : (Nat → Int32)} (hv : ∀ j, Wd (v j)) : IV B (s_cells σ v) := ⟨h.1, h.2.1, h.2.2.1, h.2.2.2.1, h.2.2.2.2.1, h.2.2.2.2.2.1, h.2.2.2.2.2.2.1, h.2.2.2.2.2.2.2.1, hv, h.2.2.2.2.2.2.2.2.2.1, h.2.2.2.2.2.2.2.2.2.2.1, h.2.2.2.2.2.2.2.2.2.2.2.1, h.2.2.2.2.2.2.2.2.2.2.2.2.1, h.2.2.2.2.2.2.2.2.2.2.2.2.2⟩
theorem PF.s_cells {B : Nat} {σ τ : St} (h : PF B σ τ) {v : (Nat → Int32)} (hv : ∀ j, Wd (v j)) : PF B σ (s_cells τ v) := ⟨h.1.s_cells hv, h.2⟩
theorem IV.s_row {B : Nat} {σ : St} (h : IV B σ) {v : (Nat → Int32)} (hv : ∀ j, Wd (v j)) : IV B (s_row σ v) := ⟨h.1, h.2.1, h.2.2.1, h.2.2.2.1, h.2.2.2.2.1, h.2.2.2.2.2.1, h.2.2.2.2.2.2.1, h.2.2.2.2.2.2.2.1, h.2.2.2.2.2.2.2.2.1, hv, h.2.2.2.2.2.2.2.2.2.2.1, h.2.2.2.2.2.2.2.2.2.2.2.1, h.2.2.2.2.2.2.2.2.2.2.2.2.1, h.2.2.2.2.2.2.2.2.2.2.2.2.2⟩
theorem PF.s_row {B : Nat} {σ τ : St} (h : PF B σ τ) {v : (Nat → Int32)} (hv : ∀ j, Wd (v j)) : PF B σ (s_row τ v) := ⟨h.1.s_row hv, h.2⟩
theorem IV.s_out {B : Nat} {σ : St} (h : IV B σ) (v : (Nat → Int32)) : IV B (s_out σ v) := h
theorem PF.s_out {B : Nat} {σ τ : St} (h : PF B σ τ) (v : (Nat → Int32)) : PF B σ (s_out τ v) := ⟨h.1.s_out v, h.2⟩
theorem IV.s_px {B : Nat} {σ : St} (h : IV B σ) (v : (Nat → Int32)) : IV B (s_px σ v) := h
theorem PF.s_px {B : Nat} {σ τ : St} (h : PF B σ τ) (v : (Nat → Int32)) : PF B σ (s_px τ v) := ⟨h.1.s_px v, h.2⟩
theorem IV.s_py {B : Nat} {σ : St} (h : IV B σ) (v : (Nat → Int32)) : IV B (s_py σ v) := h
theorem PF.s_py {B : Nat} {σ τ : St} (h : PF B σ τ) (v : (Nat → Int32)) : PF B σ (s_py τ v) := ⟨h.1.s_py v, h.2⟩
theorem IV.s_cnt {B : Nat} {σ : St} (h : IV B σ) {v : Int32} (hv : vp_in v 101) : IV B (s_cnt σ v) := ⟨h.1, h.2.1, h.2.2.1, h.2.2.2.1, h.2.2.2.2.1, h.2.2.2.2.2.1, h.2.2.2.2.2.2.1, h.2.2.2.2.2.2.2.1, h.2.2.2.2.2.2.2.2.1, h.2.2.2.2.2.2.2.2.2.1, hv, h.2.2.2.2.2.2.2.2.2.2.2.1, h.2.2.2.2.2.2.2.2.2.2.2.2.1, h.2.2.2.2.2.2.2.2.2.2.2.2.2⟩
theorem PF.s_cnt {B : Nat} {σ τ : St} (h : PF B σ τ) {v : Int32} (hv : vp_in v 101) : PF B σ (s_cnt τ v) := ⟨h.1.s_cnt hv, h.2⟩
theorem IV.s_taken {B : Nat} {σ : St} (h : IV B σ) {v : Int32} (hv : vp_in v 101) : IV B (s_taken σ v) := ⟨h.1, h.2.1, h.2.2.1, h.2.2.2.1, h.2.2.2.2.1, h.2.2.2.2.2.1, h.2.2.2.2.2.2.1, h.2.2.2.2.2.2.2.1, h.2.2.2.2.2.2.2.2.1, h.2.2.2.2.2.2.2.2.2.1, h.2.2.2.2.2.2.2.2.2.2.1, hv, h.2.2.2.2.2.2.2.2.2.2.2.2.1, h.2.2.2.2.2.2.2.2.2.2.2.2.2⟩
theorem PF.s_taken {B : Nat} {σ τ : St} (h : PF B σ τ) {v : Int32} (hv : vp_in v 101) : PF B σ (s_taken τ v) := ⟨h.1.s_taken hv, h.2⟩
theorem IV.s_outs {B : Nat} {σ : St} (h : IV B σ) {v : Int32} (hv : vp_in v 65) : IV B (s_outs σ v) := ⟨h.1, h.2.1, h.2.2.1, h.2.2.2.1, h.2.2.2.2.1, h.2.2.2.2.2.1, h.2.2.2.2.2.2.1, h.2.2.2.2.2.2.2.1, h.2.2.2.2.2.2.2.2.1, h.2.2.2.2.2.2.2.2.2.1, h.2.2.2.2.2.2.2.2.2.2.1, h.2.2.2.2.2.2.2.2.2.2.2.1, hv, h.2.2.2.2.2.2.2.2.2.2.2.2.2⟩
theorem PF.s_outs {B : Nat} {σ τ : St} (h : PF B σ τ) {v : Int32} (hv : vp_in v 65) : PF B σ (s_outs τ v) := ⟨h.1.s_outs hv, h.2⟩
theorem IV.s_lost {B : Nat} {σ : St} (h : IV B σ) (v : Int32) : IV B (s_lost σ v) := h
theorem PF.s_lost {B : Nat} {σ τ : St} (h : PF B σ τ) (v : Int32) : PF B σ (s_lost τ v) := ⟨h.1.s_lost v, h.2⟩
theorem IV.s_pts {B B' : Nat} {σ : St} (h : IV B σ) {v : Int32} (hv : vp_in v B') : IV B' (s_pts σ v) := ⟨h.1, h.2.1, h.2.2.1, h.2.2.2.1, h.2.2.2.2.1, h.2.2.2.2.2.1, h.2.2.2.2.2.2.1, h.2.2.2.2.2.2.2.1, h.2.2.2.2.2.2.2.2.1, h.2.2.2.2.2.2.2.2.2.1, h.2.2.2.2.2.2.2.2.2.2.1, h.2.2.2.2.2.2.2.2.2.2.2.1, h.2.2.2.2.2.2.2.2.2.2.2.2.1, hv⟩
theorem PF.s_pts {B B' : Nat} {σ τ : St} (h : PF B σ τ) {v : Int32} (hv : vp_in v B') : PF B' σ (s_pts τ v) := ⟨h.1.s_pts hv, h.2⟩
theorem IV.s_t0 {B : Nat} {σ : St} (h : IV B σ) (v : Int32) : IV B (s_t0 σ v) := h
theorem IV.s_t1 {B : Nat} {σ : St} (h : IV B σ) (v : Int32) : IV B (s_t1 σ v) := h
theorem PF.s_t1 {B : Nat} {σ τ : St} (h : PF B σ τ) (v : Int32) : PF B σ (s_t1 τ v) := ⟨h.1.s_t1 v, h.2⟩
theorem IV.s_t2 {B : Nat} {σ : St} (h : IV B σ) (v : Int32) : IV B (s_t2 σ v) := h
theorem PF.s_t2 {B : Nat} {σ τ : St} (h : PF B σ τ) (v : Int32) : PF B σ (s_t2 τ v) := ⟨h.1.s_t2 v, h.2⟩
theorem IV.s_t3 {B : Nat} {σ : St} (h : IV B σ) (v : Int32) : IV B (s_t3 σ v) := h
theorem PF.s_t3 {B : Nat} {σ τ : St} (h : PF B σ τ) (v : Int32) : PF B σ (s_t3 τ v) := ⟨h.1.s_t3 v, h.2⟩
theorem IV.s_t4 {B : Nat} {σ : St} (h : IV B σ) (v : Int32) : IV B (s_t4 σ v) := h
theorem PF.s_t4 {B : Nat} {σ τ : St} (h : PF B σ τ) (v : Int32) : PF B σ (s_t4 τ v) := ⟨h.1.s_t4 v, h.2⟩
theorem IV.s_t5 {B : Nat} {σ : St} (h : IV B σ) (v : Int32) : IV B (s_t5 σ v) := h
theorem PF.s_t5 {B : Nat} {σ τ : St} (h : PF B σ τ) (v : Int32) : PF B σ (s_t5 τ v) := ⟨h.1.s_t5 v, h.2⟩
theorem IV.s_t6 {B : Nat} {σ : St} (h : IV B σ) (v : Int32) : IV B (s_t6 σ v) := h
theorem PF.s_t6 {B : Nat} {σ τ : St} (h : PF B σ τ) (v : Int32) : PF B σ (s_t6 τ v) := ⟨h.1.s_t6 v, h.2⟩
theorem IV.s_t7 {B : Nat} {σ : St} (h : IV B σ) (v : Int32) : IV B (s_t7 σ v) := h
theorem IV.s_ended {B : Nat} {σ : St} (h : IV B σ) (v : Int32) : IV B (s_ended σ v) := h
theorem PF.s_ended {B : Nat} {σ τ : St} (h : PF B σ τ) (v : Int32) : PF B σ (s_ended τ v) := ⟨h.1.s_ended v, h.2⟩
theorem IV.mono {B C : Nat} {σ : St} (h : IV B σ) (hBC : B ≤ C) (hC : C < 2 ^ 31) : IV C σ := by
  refine ⟨h.1, h.2.1, h.2.2.1, h.2.2.2.1, h.2.2.2.2.1, h.2.2.2.2.2.1, h.2.2.2.2.2.2.1, h.2.2.2.2.2.2.2.1, h.2.2.2.2.2.2.2.2.1, h.2.2.2.2.2.2.2.2.2.1, h.2.2.2.2.2.2.2.2.2.2.1, h.2.2.2.2.2.2.2.2.2.2.2.1, h.2.2.2.2.2.2.2.2.2.2.2.2.1, ?_⟩
  have q := h.i_pts
  rw [vp_in_iff] at q ⊢
  omega
def dec (σ : St) (u v e : Int32) : St := s_ended (s_t7 (s_t0 σ u) v) e
theorem dg_ac (σ : St) (u v e : Int32) : g_ac (dec σ u v e) = g_ac σ := by cases σ; rfl
theorem ds_ac (σ : St) (u v e : Int32) (x : Int32) : s_ac (dec σ u v e) x = dec (s_ac σ x) u v e := by cases σ; rfl
theorem dg_io (σ : St) (u v e : Int32) : g_io (dec σ u v e) = g_io σ := by cases σ; rfl
theorem ds_io (σ : St) (u v e : Int32) (x : Int32) : s_io (dec σ u v e) x = dec (s_io σ x) u v e := by cases σ; rfl
theorem dg_pc (σ : St) (u v e : Int32) : g_pc (dec σ u v e) = g_pc σ := by cases σ; rfl
theorem ds_pc (σ : St) (u v e : Int32) (x : Int32) : s_pc (dec σ u v e) x = dec (s_pc σ x) u v e := by cases σ; rfl
theorem dg_ov (σ : St) (u v e : Int32) : g_ov (dec σ u v e) = g_ov σ := by cases σ; rfl
theorem ds_ov (σ : St) (u v e : Int32) (x : Int32) : s_ov (dec σ u v e) x = dec (s_ov σ x) u v e := by cases σ; rfl
theorem dg_flags (σ : St) (u v e : Int32) : g_flags (dec σ u v e) = g_flags σ := by cases σ; rfl
theorem ds_flags (σ : St) (u v e : Int32) (x : Int32) : s_flags (dec σ u v e) x = dec (s_flags σ x) u v e := by cases σ; rfl
theorem dg_on (σ : St) (u v e : Int32) : g_on (dec σ u v e) = g_on σ := by cases σ; rfl
theorem ds_on (σ : St) (u v e : Int32) (x : Int32) : s_on (dec σ u v e) x = dec (s_on σ x) u v e := by cases σ; rfl
theorem dg_asked (σ : St) (u v e : Int32) : g_asked (dec σ u v e) = g_asked σ := by cases σ; rfl
theorem ds_asked (σ : St) (u v e : Int32) (x : Int32) : s_asked (dec σ u v e) x = dec (s_asked σ x) u v e := by cases σ; rfl
theorem dg_under (σ : St) (u v e : Int32) : g_under (dec σ u v e) = g_under σ := by cases σ; rfl
theorem ds_under (σ : St) (u v e : Int32) (x : Int32) : s_under (dec σ u v e) x = dec (s_under σ x) u v e := by cases σ; rfl
theorem dg_sw (σ : St) (u v e : Int32) : g_sw (dec σ u v e) = g_sw σ := by cases σ; rfl
theorem ds_sw (σ : St) (u v e : Int32) (x : Int32) : s_sw (dec σ u v e) x = dec (s_sw σ x) u v e := by cases σ; rfl
theorem dg_test (σ : St) (u v e : Int32) : g_test (dec σ u v e) = g_test σ := by cases σ; rfl
theorem ds_test (σ : St) (u v e : Int32) (x : Int32) : s_test (dec σ u v e) x = dec (s_test σ x) u v e := by cases σ; rfl
theorem dg_cells (σ : St) (u v e : Int32) : g_cells (dec σ u v e) = g_cells σ := by cases σ; rfl
theorem ds_cells (σ : St) (u v e : Int32) (x : (Nat → Int32)) : s_cells (dec σ u v e) x = dec (s_cells σ x) u v e := by cases σ; rfl
theorem dg_row (σ : St) (u v e : Int32) : g_row (dec σ u v e) = g_row σ := by cases σ; rfl
theorem ds_row (σ : St) (u v e : Int32) (x : (Nat → Int32)) : s_row (dec σ u v e) x = dec (s_row σ x) u v e := by cases σ; rfl
theorem dg_out (σ : St) (u v e : Int32) : g_out (dec σ u v e) = g_out σ := by cases σ; rfl
theorem ds_out (σ : St) (u v e : Int32) (x : (Nat → Int32)) : s_out (dec σ u v e) x = dec (s_out σ x) u v e := by cases σ; rfl
theorem dg_px (σ : St) (u v e : Int32) : g_px (dec σ u v e) = g_px σ := by cases σ; rfl
theorem ds_px (σ : St) (u v e : Int32) (x : (Nat → Int32)) : s_px (dec σ u v e) x = dec (s_px σ x) u v e := by cases σ; rfl
theorem dg_py (σ : St) (u v e : Int32) : g_py (dec σ u v e) = g_py σ := by cases σ; rfl
theorem ds_py (σ : St) (u v e : Int32) (x : (Nat → Int32)) : s_py (dec σ u v e) x = dec (s_py σ x) u v e := by cases σ; rfl
theorem dg_cnt (σ : St) (u v e : Int32) : g_cnt (dec σ u v e) = g_cnt σ := by cases σ; rfl
theorem ds_cnt (σ : St) (u v e : Int32) (x : Int32) : s_cnt (dec σ u v e) x = dec (s_cnt σ x) u v e := by cases σ; rfl
theorem dg_taken (σ : St) (u v e : Int32) : g_taken (dec σ u v e) = g_taken σ := by cases σ; rfl
theorem ds_taken (σ : St) (u v e : Int32) (x : Int32) : s_taken (dec σ u v e) x = dec (s_taken σ x) u v e := by cases σ; rfl
theorem dg_outs (σ : St) (u v e : Int32) : g_outs (dec σ u v e) = g_outs σ := by cases σ; rfl
theorem ds_outs (σ : St) (u v e : Int32) (x : Int32) : s_outs (dec σ u v e) x = dec (s_outs σ x) u v e := by cases σ; rfl
theorem dg_lost (σ : St) (u v e : Int32) : g_lost (dec σ u v e) = g_lost σ := by cases σ; rfl
theorem ds_lost (σ : St) (u v e : Int32) (x : Int32) : s_lost (dec σ u v e) x = dec (s_lost σ x) u v e := by cases σ; rfl
theorem dg_pts (σ : St) (u v e : Int32) : g_pts (dec σ u v e) = g_pts σ := by cases σ; rfl
theorem ds_pts (σ : St) (u v e : Int32) (x : Int32) : s_pts (dec σ u v e) x = dec (s_pts σ x) u v e := by cases σ; rfl
theorem dg_t1 (σ : St) (u v e : Int32) : g_t1 (dec σ u v e) = g_t1 σ := by cases σ; rfl
theorem ds_t1 (σ : St) (u v e : Int32) (x : Int32) : s_t1 (dec σ u v e) x = dec (s_t1 σ x) u v e := by cases σ; rfl
theorem dg_t2 (σ : St) (u v e : Int32) : g_t2 (dec σ u v e) = g_t2 σ := by cases σ; rfl
theorem ds_t2 (σ : St) (u v e : Int32) (x : Int32) : s_t2 (dec σ u v e) x = dec (s_t2 σ x) u v e := by cases σ; rfl
theorem dg_t3 (σ : St) (u v e : Int32) : g_t3 (dec σ u v e) = g_t3 σ := by cases σ; rfl
theorem ds_t3 (σ : St) (u v e : Int32) (x : Int32) : s_t3 (dec σ u v e) x = dec (s_t3 σ x) u v e := by cases σ; rfl
theorem dg_t4 (σ : St) (u v e : Int32) : g_t4 (dec σ u v e) = g_t4 σ := by cases σ; rfl
theorem ds_t4 (σ : St) (u v e : Int32) (x : Int32) : s_t4 (dec σ u v e) x = dec (s_t4 σ x) u v e := by cases σ; rfl
theorem dg_t5 (σ : St) (u v e : Int32) : g_t5 (dec σ u v e) = g_t5 σ := by cases σ; rfl
theorem ds_t5 (σ : St) (u v e : Int32) (x : Int32) : s_t5 (dec σ u v e) x = dec (s_t5 σ x) u v e := by cases σ; rfl
theorem dg_t6 (σ : St) (u v e : Int32) : g_t6 (dec σ u v e) = g_t6 σ := by cases σ; rfl
theorem ds_t6 (σ : St) (u v e : Int32) (x : Int32) : s_t6 (dec σ u v e) x = dec (s_t6 σ x) u v e := by cases σ; rfl
theorem dg_ended (σ : St) (u v e : Int32) : g_ended (dec σ u v e) = e := by cases σ; rfl
theorem ds_ended (σ : St) (u v e x : Int32) : s_ended (dec σ u v e) x = dec σ u v x := by cases σ; rfl
theorem upd_w {f : Nat → Int32} {k : Nat} {x : Int32} (hf : ∀ j, Wd (f j)) (hx : Wd x) : ∀ j, Wd (upd f k x j) := by
  intro j
  unfold upd
  split
  · exact hx
  · exact hf j
