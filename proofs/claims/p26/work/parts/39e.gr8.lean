theorem ABS_p {x : Int32} (h : 0 ≤ x.toInt) : x = ABS x := (if_pos (Int32.le_iff_toInt_le.mpr (show (0 : Int32).toInt ≤ x.toInt from h))).symm
theorem ABS_n {x : Int32} (h : x.toInt < 0) : -x = ABS x := by
  unfold ABS
  rw [if_neg (fun h9 => by have h8 := Int32.le_iff_toInt_le.mp h9; have h7 : (0 : Int32).toInt = 0 := rfl; omega)]
  apply Int32.toBitVec_inj.mp
  rw [Int32.toBitVec_neg, Int32.toBitVec_sub]
  exact (BitVec.zero_sub _).symm
def SPb (rm : Nat → Nat → Int32) (j : Int32) (n : Nat) : Int32 := if (rm 52 n).toInt = j.toInt then rm 54 n - rm 55 n else rm 55 n - rm 54 n
def SPt (rm : Nat → Nat → Int32) (j : Int32) : Nat → Int32
  | 0 => 0
  | n + 1 => if (rm 52 n).toInt = j.toInt ∨ (rm 53 n).toInt = j.toInt then SPt rm j n + 1 else SPt rm j n
def SPa (rm : Nat → Nat → Int32) (j : Int32) : Nat → Int32
  | 0 => 0
  | n + 1 => if (rm 52 n).toInt = j.toInt ∨ (rm 53 n).toInt = j.toInt then SPa rm j n + ABS (SPb rm j n) else SPa rm j n
def SPm (rm : Nat → Nat → Int32) (j : Int32) : Nat → Int32
  | 0 => 0
  | n + 1 => if (rm 52 n).toInt = j.toInt ∨ (rm 53 n).toInt = j.toInt then SPm rm j n + SPb rm j n else SPm rm j n
/-- the class's sums of doubles are those of the reference's list -/
def RSP (im : Nat → Int32) (rm r : Nat → Nat → Int32) : Prop := ∀ j : Nat, j < 6 → r 55 j = SPt rm (nI j) (im 63).toNatClampNeg ∧ r 56 j = SPa rm (nI j) (im 63).toNatClampNeg ∧ r 57 j = SPm rm (nI j) (im 63).toNatClampNeg
set_option maxHeartbeats 4000000 in
set_option maxRecDepth 100000 in
theorem c_X12_size9 (l : Launch) (p0 : Int32) : Met l yX12_size (Cond.code yX12_size cX12_size 1 (some .int) :: gT) { frames := 1, cells := 0, slots := 0, locals := 24 } (va_Pc [.int p0] (fun _ => True)) (vp_Si (fun z => z = ABS p0)) 0 0 (fun _ => False) := by
  refine Met.ofQ (cc := cX12_size) (maxL := 1) (ret := (some .int)) (by decide) rfl ?_
  intro p e s m args below meth c s₁ B hml hv Q hQ
  obtain ⟨rfl, -⟩ := hv
  have hx := B.exec
  have hb := B.bytes
  have hr := B.returns
  have hlocks := B.notSynchronized
  have hT : ∀ w ∈ gT, w.before _ s = true := fun w h => atoms_spec (ws := (Cond.code yX12_size cX12_size 1 (some .int) :: gT)) B.pre w (List.mem_cons_of_mem _ h)
  have hown : s.vm.findClass RX12 = some m.cls := findClass_of_methodNamed B.named
  have hl := lv_entry ([.int p0]) (n := 1) (Nat.le_of_ble_eq_true rfl)
  rw [lg_entry_eq]
  generalize (lg_sl ([.int p0]) ++ List.replicate (1 - (lg_sl ([.int p0])).length) Slot.unset).toArray = ls at hl ⊢
  have hl : lv_has ls 1 [(0, .int p0)] := hl
  refine lv_iload_n hx hb dX12_size_0 rfl (lv_at hl 0 rfl) ?_
  refine lv_if_ge (tgt := 9) hx hb dX12_size_1 (by decide) (fun c_1 => ?_) (fun c_1 => ?_)
  · have c_1 : 0 ≤ p0.toInt := b_le c_1
    refine lv_iload_n hx hb dX12_size_9 rfl (lv_at hl 0 rfl) ?_
    subst hQ
    exact W.iret (v := p0) hx hb hr (fun t ht hW => ⟨_, rfl, (ABS_p (by omega)), ht⟩) (fun q hq => absurd hq List.not_mem_nil) dX12_size_10
  · have c_1 : p0.toInt < 0 := b_nle c_1
    refine lv_iload_n hx hb dX12_size_4 rfl (lv_at hl 0 rfl) ?_
    refine lv_ineg hx hb dX12_size_5 ?_
    refine lv_topi (fun v_2 ev_2 => ?_)
    refine lv_goto (tgt := 10) hx hb dX12_size_6 (by decide) ?_
    subst hQ
    exact W.iret (v := v_2) hx hb hr (fun t ht hW => ⟨_, rfl, (ev_2.trans (ABS_n (by omega))), ht⟩) (fun q hq => absurd hq List.not_mem_nil) dX12_size_10
