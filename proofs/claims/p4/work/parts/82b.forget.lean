set_option maxHeartbeats 4000000 in
set_option maxRecDepth 100000 in
theorem c2_X12_forget (l : Launch) (D : va_G) (K : zK) (hM : mK K) (f : Nat → Int32) (A : Nat → Nat → Int32) (hT : mT f A) (a0 : Nat) (ha0 : a0 ∈ zl K) (hk0 : zk K a0 = 11) : Met l yX12_forget (zc yX12_forget cX12_forget 2 (some .int)) (rmd 0) (va_Pc [.ref a0] (zB D K (mV K f A))) (mQi D K (fun r f' A' => mT f' A' ∧ (∀ k, k ∉ ([] : List Nat) → A' k = A k) ∧ (∀ k, k ∉ ([11] : List Nat) → f' k = f k) ∧ (f' 11).toInt = 0)) 0 0 (zA K) := by
  refine zin (by decide) (Nat.le_of_ble_eq_true rfl) ?_
  intro p e s m args below meth c ls Q hQ C hr hlk hP hs hl
  have C : CallFix p m c cX12_forget 2 s args zw RX12 := C
  obtain ⟨hx, hb, hml, hown, hts⟩ := id C
  have hO := hM.1
  have hS : va_S (zA K) s.heap s.heap [] := va_S.rf
  have FA : ∀ k, k ∉ ([] : List Nat) → A k = A k := fun _ _ => rfl
  have FF : ∀ k, k ∉ ([11] : List Nat) → f k = f k := fun _ _ => rfl
  have hl : lv_has ls 2 [(0, .ref a0)] := hl
  refine lv_aload_n hx hb dX12_forget_0 rfl (lv_at hl 0 rfl) ?_
  refine mg_11 C hs hP ha0 hk0 wf_X12_82 dX12_forget_1 ?_
  refine lv_istore_n (lv' := [(1, .int (f 11)), (0, .ref a0)]) hx hb dX12_forget_4 rfl hl (by decide) rfl (fun ls hl => ?_)
  refine lv_aload_n hx hb dX12_forget_5 rfl (lv_at hl 1 rfl) ?_
  refine lv_iconst (v := 0) hx hb dX12_forget_6 (by decide) ?_
  refine mp_11 C hM hs hP hS ha0 hT hk0 wf_X12_82 (show 0 ≤ (0 : Int32).toInt from by rw [ti_0]; omega) dX12_forget_7 (fun f_2 H locs hE_2 hT hP hS => ?_)
  have FF := frF FF (frFu hE_2) (by decide)
  refine lv_iload_n hx hb dX12_forget_10 rfl (lv_at hl 0 rfl) ?_
  exact maI hQ hx hb hr hlk hP hS ⟨hT, FA, FF, by rw [hE_2, pk_us]; exact ti_0⟩ dX12_forget_11
