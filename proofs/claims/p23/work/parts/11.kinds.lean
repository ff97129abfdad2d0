theorem dX11_isReading_0 : decode cX11_isReading 0 = .ok (.iload_n 0, 1) := by decide +kernel
theorem dX11_isReading_1 : decode cX11_isReading 1 = .ok (.ifCond .lt 12, 3) := by decide +kernel
theorem dX11_isReading_4 : decode cX11_isReading 4 = .ok (.iload_n 0, 1) := by decide +kernel
theorem dX11_isReading_5 : decode cX11_isReading 5 = .ok (.iconst 4, 1) := by decide +kernel
theorem dX11_isReading_6 : decode cX11_isReading 6 = .ok (.if_icmp .ge 7, 3) := by decide +kernel
theorem dX11_isReading_9 : decode cX11_isReading 9 = .ok (.iconst 1, 1) := by decide +kernel
theorem dX11_isReading_10 : decode cX11_isReading 10 = .ok (.goto 4, 3) := by decide +kernel
theorem dX11_isReading_13 : decode cX11_isReading 13 = .ok (.iconst 0, 1) := by decide +kernel
theorem dX11_isReading_14 : decode cX11_isReading 14 = .ok (.ireturn, 1) := by decide +kernel
theorem dX11_isLetterIndex_0 : decode cX11_isLetterIndex 0 = .ok (.iload_n 0, 1) := by decide +kernel
theorem dX11_isLetterIndex_1 : decode cX11_isLetterIndex 1 = .ok (.ifCond .lt 13, 3) := by decide +kernel
theorem dX11_isLetterIndex_4 : decode cX11_isLetterIndex 4 = .ok (.iload_n 0, 1) := by decide +kernel
theorem dX11_isLetterIndex_5 : decode cX11_isLetterIndex 5 = .ok (.bipush 26, 2) := by decide +kernel
theorem dX11_isLetterIndex_7 : decode cX11_isLetterIndex 7 = .ok (.if_icmp .ge 7, 3) := by decide +kernel
theorem dX11_isLetterIndex_10 : decode cX11_isLetterIndex 10 = .ok (.iconst 1, 1) := by decide +kernel
theorem dX11_isLetterIndex_11 : decode cX11_isLetterIndex 11 = .ok (.goto 4, 3) := by decide +kernel
theorem dX11_isLetterIndex_14 : decode cX11_isLetterIndex 14 = .ok (.iconst 0, 1) := by decide +kernel
theorem dX11_isLetterIndex_15 : decode cX11_isLetterIndex 15 = .ok (.ireturn, 1) := by decide +kernel
theorem dX11_isVariableValue_0 : decode cX11_isVariableValue 0 = .ok (.iload_n 0, 1) := by decide +kernel
theorem dX11_isVariableValue_1 : decode cX11_isVariableValue 1 = .ok (.sipush (-1000), 3) := by decide +kernel
theorem dX11_isVariableValue_4 : decode cX11_isVariableValue 4 = .ok (.if_icmp .lt 14, 3) := by decide +kernel
theorem dX11_isVariableValue_7 : decode cX11_isVariableValue 7 = .ok (.iload_n 0, 1) := by decide +kernel
theorem dX11_isVariableValue_8 : decode cX11_isVariableValue 8 = .ok (.sipush 1000, 3) := by decide +kernel
theorem dX11_isVariableValue_11 : decode cX11_isVariableValue 11 = .ok (.if_icmp .gt 7, 3) := by decide +kernel
theorem dX11_isVariableValue_14 : decode cX11_isVariableValue 14 = .ok (.iconst 1, 1) := by decide +kernel
theorem dX11_isVariableValue_15 : decode cX11_isVariableValue 15 = .ok (.goto 4, 3) := by decide +kernel
theorem dX11_isVariableValue_18 : decode cX11_isVariableValue 18 = .ok (.iconst 0, 1) := by decide +kernel
theorem dX11_isVariableValue_19 : decode cX11_isVariableValue 19 = .ok (.ireturn, 1) := by decide +kernel
theorem dX11_isFunction_0 : decode cX11_isFunction 0 = .ok (.iload_n 0, 1) := by decide +kernel
theorem dX11_isFunction_1 : decode cX11_isFunction 1 = .ok (.iconst 3, 1) := by decide +kernel
theorem dX11_isFunction_2 : decode cX11_isFunction 2 = .ok (.if_icmp .lt 13, 3) := by decide +kernel
theorem dX11_isFunction_5 : decode cX11_isFunction 5 = .ok (.iload_n 0, 1) := by decide +kernel
theorem dX11_isFunction_6 : decode cX11_isFunction 6 = .ok (.bipush 6, 2) := by decide +kernel
theorem dX11_isFunction_8 : decode cX11_isFunction 8 = .ok (.if_icmp .gt 7, 3) := by decide +kernel
theorem dX11_isFunction_11 : decode cX11_isFunction 11 = .ok (.iconst 1, 1) := by decide +kernel
theorem dX11_isFunction_12 : decode cX11_isFunction 12 = .ok (.goto 4, 3) := by decide +kernel
theorem dX11_isFunction_15 : decode cX11_isFunction 15 = .ok (.iconst 0, 1) := by decide +kernel
theorem dX11_isFunction_16 : decode cX11_isFunction 16 = .ok (.ireturn, 1) := by decide +kernel
theorem dX11_isOperator_0 : decode cX11_isOperator 0 = .ok (.iload_n 0, 1) := by decide +kernel
theorem dX11_isOperator_1 : decode cX11_isOperator 1 = .ok (.bipush 7, 2) := by decide +kernel
theorem dX11_isOperator_3 : decode cX11_isOperator 3 = .ok (.if_icmp .lt 13, 3) := by decide +kernel
theorem dX11_isOperator_6 : decode cX11_isOperator 6 = .ok (.iload_n 0, 1) := by decide +kernel
theorem dX11_isOperator_7 : decode cX11_isOperator 7 = .ok (.bipush 11, 2) := by decide +kernel
theorem dX11_isOperator_9 : decode cX11_isOperator 9 = .ok (.if_icmp .gt 7, 3) := by decide +kernel
theorem dX11_isOperator_12 : decode cX11_isOperator 12 = .ok (.iconst 1, 1) := by decide +kernel
theorem dX11_isOperator_13 : decode cX11_isOperator 13 = .ok (.goto 4, 3) := by decide +kernel
theorem dX11_isOperator_16 : decode cX11_isOperator 16 = .ok (.iconst 0, 1) := by decide +kernel
theorem dX11_isOperator_17 : decode cX11_isOperator 17 = .ok (.ireturn, 1) := by decide +kernel
theorem dX11_isBinary_0 : decode cX11_isBinary 0 = .ok (.iload_n 0, 1) := by decide +kernel
theorem dX11_isBinary_1 : decode cX11_isBinary 1 = .ok (.bipush 7, 2) := by decide +kernel
theorem dX11_isBinary_3 : decode cX11_isBinary 3 = .ok (.if_icmp .lt 13, 3) := by decide +kernel
theorem dX11_isBinary_6 : decode cX11_isBinary 6 = .ok (.iload_n 0, 1) := by decide +kernel
theorem dX11_isBinary_7 : decode cX11_isBinary 7 = .ok (.bipush 12, 2) := by decide +kernel
theorem dX11_isBinary_9 : decode cX11_isBinary 9 = .ok (.if_icmp .gt 7, 3) := by decide +kernel
theorem dX11_isBinary_12 : decode cX11_isBinary 12 = .ok (.iconst 1, 1) := by decide +kernel
theorem dX11_isBinary_13 : decode cX11_isBinary 13 = .ok (.goto 4, 3) := by decide +kernel
theorem dX11_isBinary_16 : decode cX11_isBinary 16 = .ok (.iconst 0, 1) := by decide +kernel
theorem dX11_isBinary_17 : decode cX11_isBinary 17 = .ok (.ireturn, 1) := by decide +kernel
theorem dX11_isBinaryOrNegation_0 : decode cX11_isBinaryOrNegation 0 = .ok (.iload_n 0, 1) := by decide +kernel
theorem dX11_isBinaryOrNegation_1 : decode cX11_isBinaryOrNegation 1 = .ok (.bipush 7, 2) := by decide +kernel
theorem dX11_isBinaryOrNegation_3 : decode cX11_isBinaryOrNegation 3 = .ok (.if_icmp .lt 13, 3) := by decide +kernel
theorem dX11_isBinaryOrNegation_6 : decode cX11_isBinaryOrNegation 6 = .ok (.iload_n 0, 1) := by decide +kernel
theorem dX11_isBinaryOrNegation_7 : decode cX11_isBinaryOrNegation 7 = .ok (.bipush 13, 2) := by decide +kernel
theorem dX11_isBinaryOrNegation_9 : decode cX11_isBinaryOrNegation 9 = .ok (.if_icmp .gt 7, 3) := by decide +kernel
theorem dX11_isBinaryOrNegation_12 : decode cX11_isBinaryOrNegation 12 = .ok (.iconst 1, 1) := by decide +kernel
theorem dX11_isBinaryOrNegation_13 : decode cX11_isBinaryOrNegation 13 = .ok (.goto 4, 3) := by decide +kernel
theorem dX11_isBinaryOrNegation_16 : decode cX11_isBinaryOrNegation 16 = .ok (.iconst 0, 1) := by decide +kernel
theorem dX11_isBinaryOrNegation_17 : decode cX11_isBinaryOrNegation 17 = .ok (.ireturn, 1) := by decide +kernel
theorem dX11_startsLink_0 : decode cX11_startsLink 0 = .ok (.iload_n 0, 1) := by decide +kernel
theorem dX11_startsLink_1 : decode cX11_startsLink 1 = .ok (.bipush 14, 2) := by decide +kernel
theorem dX11_startsLink_3 : decode cX11_startsLink 3 = .ok (.if_icmp .lt 13, 3) := by decide +kernel
theorem dX11_startsLink_6 : decode cX11_startsLink 6 = .ok (.iload_n 0, 1) := by decide +kernel
theorem dX11_startsLink_7 : decode cX11_startsLink 7 = .ok (.bipush 20, 2) := by decide +kernel
theorem dX11_startsLink_9 : decode cX11_startsLink 9 = .ok (.if_icmp .gt 7, 3) := by decide +kernel
theorem dX11_startsLink_12 : decode cX11_startsLink 12 = .ok (.iconst 1, 1) := by decide +kernel
theorem dX11_startsLink_13 : decode cX11_startsLink 13 = .ok (.goto 4, 3) := by decide +kernel
theorem dX11_startsLink_16 : decode cX11_startsLink 16 = .ok (.iconst 0, 1) := by decide +kernel
theorem dX11_startsLink_17 : decode cX11_startsLink 17 = .ok (.ireturn, 1) := by decide +kernel
theorem dX11_startsSum_0 : decode cX11_startsSum 0 = .ok (.iload_n 0, 1) := by decide +kernel
theorem dX11_startsSum_1 : decode cX11_startsSum 1 = .ok (.bipush 14, 2) := by decide +kernel
theorem dX11_startsSum_3 : decode cX11_startsSum 3 = .ok (.if_icmp .lt 13, 3) := by decide +kernel
theorem dX11_startsSum_6 : decode cX11_startsSum 6 = .ok (.iload_n 0, 1) := by decide +kernel
theorem dX11_startsSum_7 : decode cX11_startsSum 7 = .ok (.bipush 21, 2) := by decide +kernel
theorem dX11_startsSum_9 : decode cX11_startsSum 9 = .ok (.if_icmp .gt 7, 3) := by decide +kernel
theorem dX11_startsSum_12 : decode cX11_startsSum 12 = .ok (.iconst 1, 1) := by decide +kernel
theorem dX11_startsSum_13 : decode cX11_startsSum 13 = .ok (.goto 4, 3) := by decide +kernel
theorem dX11_startsSum_16 : decode cX11_startsSum 16 = .ok (.iconst 0, 1) := by decide +kernel
theorem dX11_startsSum_17 : decode cX11_startsSum 17 = .ok (.ireturn, 1) := by decide +kernel
theorem dX11_startsPower_0 : decode cX11_startsPower 0 = .ok (.iload_n 0, 1) := by decide +kernel
theorem dX11_startsPower_1 : decode cX11_startsPower 1 = .ok (.iconst 1, 1) := by decide +kernel
theorem dX11_startsPower_2 : decode cX11_startsPower 2 = .ok (.if_icmp .lt 9, 3) := by decide +kernel
theorem dX11_startsPower_5 : decode cX11_startsPower 5 = .ok (.iload_n 0, 1) := by decide +kernel
theorem dX11_startsPower_6 : decode cX11_startsPower 6 = .ok (.bipush 6, 2) := by decide +kernel
theorem dX11_startsPower_8 : decode cX11_startsPower 8 = .ok (.if_icmp .le 9, 3) := by decide +kernel
theorem dX11_startsPower_11 : decode cX11_startsPower 11 = .ok (.iload_n 0, 1) := by decide +kernel
theorem dX11_startsPower_12 : decode cX11_startsPower 12 = .ok (.bipush 22, 2) := by decide +kernel
theorem dX11_startsPower_14 : decode cX11_startsPower 14 = .ok (.if_icmp .ne 7, 3) := by decide +kernel
theorem dX11_startsPower_17 : decode cX11_startsPower 17 = .ok (.iconst 1, 1) := by decide +kernel
theorem dX11_startsPower_18 : decode cX11_startsPower 18 = .ok (.goto 4, 3) := by decide +kernel
theorem dX11_startsPower_21 : decode cX11_startsPower 21 = .ok (.iconst 0, 1) := by decide +kernel
theorem dX11_startsPower_22 : decode cX11_startsPower 22 = .ok (.ireturn, 1) := by decide +kernel
theorem dX11_symbolOf_0 : decode cX11_symbolOf 0 = .ok (.iload_n 0, 1) := by decide +kernel
theorem dX11_symbolOf_1 : decode cX11_symbolOf 1 = .ok (.tableswitch 145 3 21 #[91, 94, 97, 100, 103, 106, 109, 112, 115, 118, 145, 121, 124, 127, 130, 133, 136, 139, 142], 91) := by decide +kernel
theorem dX11_symbolOf_92 : decode cX11_symbolOf 92 = .ok (.ldc 188, 2) := by decide +kernel
theorem dX11_symbolOf_94 : decode cX11_symbolOf 94 = .ok (.areturn, 1) := by decide +kernel
theorem dX11_symbolOf_95 : decode cX11_symbolOf 95 = .ok (.ldc 190, 2) := by decide +kernel
theorem dX11_symbolOf_97 : decode cX11_symbolOf 97 = .ok (.areturn, 1) := by decide +kernel
theorem dX11_symbolOf_98 : decode cX11_symbolOf 98 = .ok (.ldc 192, 2) := by decide +kernel
theorem dX11_symbolOf_100 : decode cX11_symbolOf 100 = .ok (.areturn, 1) := by decide +kernel
theorem dX11_symbolOf_101 : decode cX11_symbolOf 101 = .ok (.ldc 194, 2) := by decide +kernel
theorem dX11_symbolOf_103 : decode cX11_symbolOf 103 = .ok (.areturn, 1) := by decide +kernel
theorem dX11_symbolOf_104 : decode cX11_symbolOf 104 = .ok (.ldc 196, 2) := by decide +kernel
theorem dX11_symbolOf_106 : decode cX11_symbolOf 106 = .ok (.areturn, 1) := by decide +kernel
theorem dX11_symbolOf_107 : decode cX11_symbolOf 107 = .ok (.ldc 198, 2) := by decide +kernel
theorem dX11_symbolOf_109 : decode cX11_symbolOf 109 = .ok (.areturn, 1) := by decide +kernel
theorem dX11_symbolOf_110 : decode cX11_symbolOf 110 = .ok (.ldc 200, 2) := by decide +kernel
theorem dX11_symbolOf_112 : decode cX11_symbolOf 112 = .ok (.areturn, 1) := by decide +kernel
theorem dX11_symbolOf_113 : decode cX11_symbolOf 113 = .ok (.ldc 202, 2) := by decide +kernel
theorem dX11_symbolOf_115 : decode cX11_symbolOf 115 = .ok (.areturn, 1) := by decide +kernel
theorem dX11_symbolOf_116 : decode cX11_symbolOf 116 = .ok (.ldc 204, 2) := by decide +kernel
theorem dX11_symbolOf_118 : decode cX11_symbolOf 118 = .ok (.areturn, 1) := by decide +kernel
theorem dX11_symbolOf_119 : decode cX11_symbolOf 119 = .ok (.ldc 200, 2) := by decide +kernel
theorem dX11_symbolOf_121 : decode cX11_symbolOf 121 = .ok (.areturn, 1) := by decide +kernel
theorem dX11_symbolOf_122 : decode cX11_symbolOf 122 = .ok (.ldc 206, 2) := by decide +kernel
theorem dX11_symbolOf_124 : decode cX11_symbolOf 124 = .ok (.areturn, 1) := by decide +kernel
theorem dX11_symbolOf_125 : decode cX11_symbolOf 125 = .ok (.ldc 208, 2) := by decide +kernel
theorem dX11_symbolOf_127 : decode cX11_symbolOf 127 = .ok (.areturn, 1) := by decide +kernel
theorem dX11_symbolOf_128 : decode cX11_symbolOf 128 = .ok (.ldc 210, 2) := by decide +kernel
theorem dX11_symbolOf_130 : decode cX11_symbolOf 130 = .ok (.areturn, 1) := by decide +kernel
theorem dX11_symbolOf_131 : decode cX11_symbolOf 131 = .ok (.ldc 212, 2) := by decide +kernel
theorem dX11_symbolOf_133 : decode cX11_symbolOf 133 = .ok (.areturn, 1) := by decide +kernel
theorem dX11_symbolOf_134 : decode cX11_symbolOf 134 = .ok (.ldc 214, 2) := by decide +kernel
theorem dX11_symbolOf_136 : decode cX11_symbolOf 136 = .ok (.areturn, 1) := by decide +kernel
theorem dX11_symbolOf_137 : decode cX11_symbolOf 137 = .ok (.ldc 216, 2) := by decide +kernel
theorem dX11_symbolOf_139 : decode cX11_symbolOf 139 = .ok (.areturn, 1) := by decide +kernel
theorem dX11_symbolOf_140 : decode cX11_symbolOf 140 = .ok (.ldc 218, 2) := by decide +kernel
theorem dX11_symbolOf_142 : decode cX11_symbolOf 142 = .ok (.areturn, 1) := by decide +kernel
theorem dX11_symbolOf_143 : decode cX11_symbolOf 143 = .ok (.ldc 220, 2) := by decide +kernel
theorem dX11_symbolOf_145 : decode cX11_symbolOf 145 = .ok (.areturn, 1) := by decide +kernel
theorem dX11_symbolOf_146 : decode cX11_symbolOf 146 = .ok (.ldc 222, 2) := by decide +kernel
theorem dX11_symbolOf_148 : decode cX11_symbolOf 148 = .ok (.areturn, 1) := by decide +kernel
theorem dX11_wordOf_0 : decode cX11_wordOf 0 = .ok (.iload_n 0, 1) := by decide +kernel
theorem dX11_wordOf_1 : decode cX11_wordOf 1 = .ok (.tableswitch 117 7 21 #[75, 78, 81, 84, 87, 90, 117, 93, 96, 99, 102, 105, 108, 111, 114], 75) := by decide +kernel
theorem dX11_wordOf_76 : decode cX11_wordOf 76 = .ok (.ldc 224, 2) := by decide +kernel
theorem dX11_wordOf_78 : decode cX11_wordOf 78 = .ok (.areturn, 1) := by decide +kernel
theorem dX11_wordOf_79 : decode cX11_wordOf 79 = .ok (.ldc 226, 2) := by decide +kernel
theorem dX11_wordOf_81 : decode cX11_wordOf 81 = .ok (.areturn, 1) := by decide +kernel
theorem dX11_wordOf_82 : decode cX11_wordOf 82 = .ok (.ldc 228, 2) := by decide +kernel
theorem dX11_wordOf_84 : decode cX11_wordOf 84 = .ok (.areturn, 1) := by decide +kernel
theorem dX11_wordOf_85 : decode cX11_wordOf 85 = .ok (.ldc 230, 2) := by decide +kernel
theorem dX11_wordOf_87 : decode cX11_wordOf 87 = .ok (.areturn, 1) := by decide +kernel
theorem dX11_wordOf_88 : decode cX11_wordOf 88 = .ok (.ldc 232, 2) := by decide +kernel
theorem dX11_wordOf_90 : decode cX11_wordOf 90 = .ok (.areturn, 1) := by decide +kernel
theorem dX11_wordOf_91 : decode cX11_wordOf 91 = .ok (.ldc 234, 2) := by decide +kernel
theorem dX11_wordOf_93 : decode cX11_wordOf 93 = .ok (.areturn, 1) := by decide +kernel
theorem dX11_wordOf_94 : decode cX11_wordOf 94 = .ok (.ldc 236, 2) := by decide +kernel
theorem dX11_wordOf_96 : decode cX11_wordOf 96 = .ok (.areturn, 1) := by decide +kernel
theorem dX11_wordOf_97 : decode cX11_wordOf 97 = .ok (.ldc 238, 2) := by decide +kernel
theorem dX11_wordOf_99 : decode cX11_wordOf 99 = .ok (.areturn, 1) := by decide +kernel
theorem dX11_wordOf_100 : decode cX11_wordOf 100 = .ok (.ldc 240, 2) := by decide +kernel
theorem dX11_wordOf_102 : decode cX11_wordOf 102 = .ok (.areturn, 1) := by decide +kernel
theorem dX11_wordOf_103 : decode cX11_wordOf 103 = .ok (.ldc 242, 2) := by decide +kernel
theorem dX11_wordOf_105 : decode cX11_wordOf 105 = .ok (.areturn, 1) := by decide +kernel
theorem dX11_wordOf_106 : decode cX11_wordOf 106 = .ok (.ldc 244, 2) := by decide +kernel
theorem dX11_wordOf_108 : decode cX11_wordOf 108 = .ok (.areturn, 1) := by decide +kernel
theorem dX11_wordOf_109 : decode cX11_wordOf 109 = .ok (.ldc 246, 2) := by decide +kernel
theorem dX11_wordOf_111 : decode cX11_wordOf 111 = .ok (.areturn, 1) := by decide +kernel
theorem dX11_wordOf_112 : decode cX11_wordOf 112 = .ok (.ldc 248, 2) := by decide +kernel
theorem dX11_wordOf_114 : decode cX11_wordOf 114 = .ok (.areturn, 1) := by decide +kernel
theorem dX11_wordOf_115 : decode cX11_wordOf 115 = .ok (.ldc 232, 2) := by decide +kernel
theorem dX11_wordOf_117 : decode cX11_wordOf 117 = .ok (.areturn, 1) := by decide +kernel
theorem dX11_wordOf_118 : decode cX11_wordOf 118 = .ok (.ldc 222, 2) := by decide +kernel
theorem dX11_wordOf_120 : decode cX11_wordOf 120 = .ok (.areturn, 1) := by decide +kernel
def fn_Parser_isReading (x0 : Int32) : Int32 := (if x0 < 0 then 0 else (if 4 ≤ x0 then 0 else 1))
set_option maxHeartbeats 40000000 in
set_option maxRecDepth 100000 in
theorem ct_Parser_isReading (l : Launch) (D : va_G) (cI cJ cC : ClassId) (adK adV : Nat → Nat) (sz : Nat) (x0 : Int32) : Met l yX11_isReading wsX11_isReading ({ frames := 0, cells := 0, slots := 0, locals := 0 } : Room) (zP D cI cJ cC adK adV [.int x0] sz []) (zQi D cI cJ cC (fn_Parser_isReading x0) [] (va_A [] sz)) 0 0 (va_A [] sz) := by
  obtain ⟨rs, hM⟩ : ∃ rs, fn_Parser_isReading x0 = rs := ⟨_, rfl⟩
  rw [hM]
  refine Met.ofW (cc := cX11_isReading) (maxL := 1) (ret := (some .boolean)) (by decide) rfl ?_
  intro p e s m args below meth c s₁ B hml hv0
  obtain ⟨hargs, hsz, hP, hK, hD0, hX⟩ := hv0
  have hx := B.exec
  have hb := B.bytes
  have hr := B.returns
  have hts := atoms_spec (ws := wsX11_isReading) B.pre
  have hown : s.vm.findClass RX11 = some m.cls := findClass_of_methodNamed B.named
  have hlocks := B.notSynchronized
  subst hsz
  have hD := hD0.self (sz := s.heap.size)
  generalize hAe : va_A [] s.heap.size = A at hD hX ⊢
  have hA : ∀ q : Nat, s.heap.size ≤ q → A q := fun q h => by rw [← hAe]; exact Or.inr h
  have hS : va_S A s.heap s.heap [] := va_S.rf
  have hl := lv_entry ([.int x0]) (n := 1) (Nat.le_of_ble_eq_true rfl)
  rw [hargs, lg_entry_eq, ← hargs]
  generalize (lg_sl ([.int x0]) ++ List.replicate (1 - (lg_sl ([.int x0])).length) Slot.unset).toArray = ls at hl ⊢
  have hl : lv_has ls 1 [(0, .int x0)] := hl
  refine lv_iload_n hx hb dX11_isReading_0 rfl (lv_at hl 0 rfl) ?_
  refine lv_if_lt (tgt := 13) hx hb dX11_isReading_1 (by decide) (fun c1 => ?_) (fun c1 => ?_)
  · have hM := z_t c1 hM
    refine lv_iconst (v := 0) hx hb dX11_isReading_13 (by decide) ?_
    have hM := hM
    subst hM
    exact W.zret (v := 0) (ty := .boolean) hx hb hr rfl (fun t ht hW => ⟨⟨_, (), rfl, rfl, ⟨by rw [ht]; exact hP, va_K.moved hW.alike hK, hD⟩⟩, hS.F ht⟩) hS.2.2 dX11_isReading_14
  · have hM := z_f c1 hM
    refine lv_iload_n hx hb dX11_isReading_4 rfl (lv_at hl 0 rfl) ?_
    refine lv_iconst (v := 4) hx hb dX11_isReading_5 (by decide) ?_
    refine lv_icmp_ge (tgt := 13) hx hb dX11_isReading_6 (by decide) (fun c2 => ?_) (fun c2 => ?_)
    · have hM := z_t c2 hM
      refine lv_iconst (v := 0) hx hb dX11_isReading_13 (by decide) ?_
      have hM := hM
      subst hM
      exact W.zret (v := 0) (ty := .boolean) hx hb hr rfl (fun t ht hW => ⟨⟨_, (), rfl, rfl, ⟨by rw [ht]; exact hP, va_K.moved hW.alike hK, hD⟩⟩, hS.F ht⟩) hS.2.2 dX11_isReading_14
    · have hM := z_f c2 hM
      refine lv_iconst (v := 1) hx hb dX11_isReading_9 (by decide) ?_
      refine lv_goto (tgt := 14) hx hb dX11_isReading_10 (by decide) ?_
      have hM := hM
      subst hM
      exact W.zret (v := 1) (ty := .boolean) hx hb hr rfl (fun t ht hW => ⟨⟨_, (), rfl, rfl, ⟨by rw [ht]; exact hP, va_K.moved hW.alike hK, hD⟩⟩, hS.F ht⟩) hS.2.2 dX11_isReading_14
def fn_Parser_isLetterIndex (x0 : Int32) : Int32 := (if x0 < 0 then 0 else (if 26 ≤ x0 then 0 else 1))
set_option maxHeartbeats 40000000 in
set_option maxRecDepth 100000 in
theorem ct_Parser_isLetterIndex (l : Launch) (D : va_G) (cI cJ cC : ClassId) (adK adV : Nat → Nat) (sz : Nat) (x0 : Int32) : Met l yX11_isLetterIndex wsX11_isLetterIndex ({ frames := 0, cells := 0, slots := 0, locals := 0 } : Room) (zP D cI cJ cC adK adV [.int x0] sz []) (zQi D cI cJ cC (fn_Parser_isLetterIndex x0) [] (va_A [] sz)) 0 0 (va_A [] sz) := by
  obtain ⟨rs, hM⟩ : ∃ rs, fn_Parser_isLetterIndex x0 = rs := ⟨_, rfl⟩
  rw [hM]
  refine Met.ofW (cc := cX11_isLetterIndex) (maxL := 1) (ret := (some .boolean)) (by decide) rfl ?_
  intro p e s m args below meth c s₁ B hml hv0
  obtain ⟨hargs, hsz, hP, hK, hD0, hX⟩ := hv0
  have hx := B.exec
  have hb := B.bytes
  have hr := B.returns
  have hts := atoms_spec (ws := wsX11_isLetterIndex) B.pre
  have hown : s.vm.findClass RX11 = some m.cls := findClass_of_methodNamed B.named
  have hlocks := B.notSynchronized
  subst hsz
  have hD := hD0.self (sz := s.heap.size)
  generalize hAe : va_A [] s.heap.size = A at hD hX ⊢
  have hA : ∀ q : Nat, s.heap.size ≤ q → A q := fun q h => by rw [← hAe]; exact Or.inr h
  have hS : va_S A s.heap s.heap [] := va_S.rf
  have hl := lv_entry ([.int x0]) (n := 1) (Nat.le_of_ble_eq_true rfl)
  rw [hargs, lg_entry_eq, ← hargs]
  generalize (lg_sl ([.int x0]) ++ List.replicate (1 - (lg_sl ([.int x0])).length) Slot.unset).toArray = ls at hl ⊢
  have hl : lv_has ls 1 [(0, .int x0)] := hl
  refine lv_iload_n hx hb dX11_isLetterIndex_0 rfl (lv_at hl 0 rfl) ?_
  refine lv_if_lt (tgt := 14) hx hb dX11_isLetterIndex_1 (by decide) (fun c1 => ?_) (fun c1 => ?_)
  · have hM := z_t c1 hM
    refine lv_iconst (v := 0) hx hb dX11_isLetterIndex_14 (by decide) ?_
    have hM := hM
    subst hM
    exact W.zret (v := 0) (ty := .boolean) hx hb hr rfl (fun t ht hW => ⟨⟨_, (), rfl, rfl, ⟨by rw [ht]; exact hP, va_K.moved hW.alike hK, hD⟩⟩, hS.F ht⟩) hS.2.2 dX11_isLetterIndex_15
  · have hM := z_f c1 hM
    refine lv_iload_n hx hb dX11_isLetterIndex_4 rfl (lv_at hl 0 rfl) ?_
    refine lv_bipush (v := 26) hx hb dX11_isLetterIndex_5 (by decide) ?_
    refine lv_icmp_ge (tgt := 14) hx hb dX11_isLetterIndex_7 (by decide) (fun c2 => ?_) (fun c2 => ?_)
    · have hM := z_t c2 hM
      refine lv_iconst (v := 0) hx hb dX11_isLetterIndex_14 (by decide) ?_
      have hM := hM
      subst hM
      exact W.zret (v := 0) (ty := .boolean) hx hb hr rfl (fun t ht hW => ⟨⟨_, (), rfl, rfl, ⟨by rw [ht]; exact hP, va_K.moved hW.alike hK, hD⟩⟩, hS.F ht⟩) hS.2.2 dX11_isLetterIndex_15
    · have hM := z_f c2 hM
      refine lv_iconst (v := 1) hx hb dX11_isLetterIndex_10 (by decide) ?_
      refine lv_goto (tgt := 15) hx hb dX11_isLetterIndex_11 (by decide) ?_
      have hM := hM
      subst hM
      exact W.zret (v := 1) (ty := .boolean) hx hb hr rfl (fun t ht hW => ⟨⟨_, (), rfl, rfl, ⟨by rw [ht]; exact hP, va_K.moved hW.alike hK, hD⟩⟩, hS.F ht⟩) hS.2.2 dX11_isLetterIndex_15
def fn_Parser_isVariableValue (x0 : Int32) : Int32 := (if x0 < (-1000) then 0 else (if 1000 < x0 then 0 else 1))
set_option maxHeartbeats 40000000 in
set_option maxRecDepth 100000 in
theorem ct_Parser_isVariableValue (l : Launch) (D : va_G) (cI cJ cC : ClassId) (adK adV : Nat → Nat) (sz : Nat) (x0 : Int32) : Met l yX11_isVariableValue wsX11_isVariableValue ({ frames := 0, cells := 0, slots := 0, locals := 0 } : Room) (zP D cI cJ cC adK adV [.int x0] sz []) (zQi D cI cJ cC (fn_Parser_isVariableValue x0) [] (va_A [] sz)) 0 0 (va_A [] sz) := by
  obtain ⟨rs, hM⟩ : ∃ rs, fn_Parser_isVariableValue x0 = rs := ⟨_, rfl⟩
  rw [hM]
  refine Met.ofW (cc := cX11_isVariableValue) (maxL := 1) (ret := (some .boolean)) (by decide) rfl ?_
  intro p e s m args below meth c s₁ B hml hv0
  obtain ⟨hargs, hsz, hP, hK, hD0, hX⟩ := hv0
  have hx := B.exec
  have hb := B.bytes
  have hr := B.returns
  have hts := atoms_spec (ws := wsX11_isVariableValue) B.pre
  have hown : s.vm.findClass RX11 = some m.cls := findClass_of_methodNamed B.named
  have hlocks := B.notSynchronized
  subst hsz
  have hD := hD0.self (sz := s.heap.size)
  generalize hAe : va_A [] s.heap.size = A at hD hX ⊢
  have hA : ∀ q : Nat, s.heap.size ≤ q → A q := fun q h => by rw [← hAe]; exact Or.inr h
  have hS : va_S A s.heap s.heap [] := va_S.rf
  have hl := lv_entry ([.int x0]) (n := 1) (Nat.le_of_ble_eq_true rfl)
  rw [hargs, lg_entry_eq, ← hargs]
  generalize (lg_sl ([.int x0]) ++ List.replicate (1 - (lg_sl ([.int x0])).length) Slot.unset).toArray = ls at hl ⊢
  have hl : lv_has ls 1 [(0, .int x0)] := hl
  refine lv_iload_n hx hb dX11_isVariableValue_0 rfl (lv_at hl 0 rfl) ?_
  refine lv_sipush (v := (-1000)) hx hb dX11_isVariableValue_1 (by decide) ?_
  refine lv_icmp_lt (tgt := 18) hx hb dX11_isVariableValue_4 (by decide) (fun c1 => ?_) (fun c1 => ?_)
  · have hM := z_t c1 hM
    refine lv_iconst (v := 0) hx hb dX11_isVariableValue_18 (by decide) ?_
    have hM := hM
    subst hM
    exact W.zret (v := 0) (ty := .boolean) hx hb hr rfl (fun t ht hW => ⟨⟨_, (), rfl, rfl, ⟨by rw [ht]; exact hP, va_K.moved hW.alike hK, hD⟩⟩, hS.F ht⟩) hS.2.2 dX11_isVariableValue_19
  · have hM := z_f c1 hM
    refine lv_iload_n hx hb dX11_isVariableValue_7 rfl (lv_at hl 0 rfl) ?_
    refine lv_sipush (v := 1000) hx hb dX11_isVariableValue_8 (by decide) ?_
    refine lv_icmp_gt (tgt := 18) hx hb dX11_isVariableValue_11 (by decide) (fun c2 => ?_) (fun c2 => ?_)
    · have hM := z_t c2 hM
      refine lv_iconst (v := 0) hx hb dX11_isVariableValue_18 (by decide) ?_
      have hM := hM
      subst hM
      exact W.zret (v := 0) (ty := .boolean) hx hb hr rfl (fun t ht hW => ⟨⟨_, (), rfl, rfl, ⟨by rw [ht]; exact hP, va_K.moved hW.alike hK, hD⟩⟩, hS.F ht⟩) hS.2.2 dX11_isVariableValue_19
    · have hM := z_f c2 hM
      refine lv_iconst (v := 1) hx hb dX11_isVariableValue_14 (by decide) ?_
      refine lv_goto (tgt := 19) hx hb dX11_isVariableValue_15 (by decide) ?_
      have hM := hM
      subst hM
      exact W.zret (v := 1) (ty := .boolean) hx hb hr rfl (fun t ht hW => ⟨⟨_, (), rfl, rfl, ⟨by rw [ht]; exact hP, va_K.moved hW.alike hK, hD⟩⟩, hS.F ht⟩) hS.2.2 dX11_isVariableValue_19
def fn_Parser_isFunction (x0 : Int32) : Int32 := (if x0 < 3 then 0 else (if 6 < x0 then 0 else 1))
set_option maxHeartbeats 40000000 in
set_option maxRecDepth 100000 in
theorem ct_Parser_isFunction (l : Launch) (D : va_G) (cI cJ cC : ClassId) (adK adV : Nat → Nat) (sz : Nat) (x0 : Int32) : Met l yX11_isFunction wsX11_isFunction ({ frames := 0, cells := 0, slots := 0, locals := 0 } : Room) (zP D cI cJ cC adK adV [.int x0] sz []) (zQi D cI cJ cC (fn_Parser_isFunction x0) [] (va_A [] sz)) 0 0 (va_A [] sz) := by
  obtain ⟨rs, hM⟩ : ∃ rs, fn_Parser_isFunction x0 = rs := ⟨_, rfl⟩
  rw [hM]
  refine Met.ofW (cc := cX11_isFunction) (maxL := 1) (ret := (some .boolean)) (by decide) rfl ?_
  intro p e s m args below meth c s₁ B hml hv0
  obtain ⟨hargs, hsz, hP, hK, hD0, hX⟩ := hv0
  have hx := B.exec
  have hb := B.bytes
  have hr := B.returns
  have hts := atoms_spec (ws := wsX11_isFunction) B.pre
  have hown : s.vm.findClass RX11 = some m.cls := findClass_of_methodNamed B.named
  have hlocks := B.notSynchronized
  subst hsz
  have hD := hD0.self (sz := s.heap.size)
  generalize hAe : va_A [] s.heap.size = A at hD hX ⊢
  have hA : ∀ q : Nat, s.heap.size ≤ q → A q := fun q h => by rw [← hAe]; exact Or.inr h
  have hS : va_S A s.heap s.heap [] := va_S.rf
  have hl := lv_entry ([.int x0]) (n := 1) (Nat.le_of_ble_eq_true rfl)
  rw [hargs, lg_entry_eq, ← hargs]
  generalize (lg_sl ([.int x0]) ++ List.replicate (1 - (lg_sl ([.int x0])).length) Slot.unset).toArray = ls at hl ⊢
  have hl : lv_has ls 1 [(0, .int x0)] := hl
  refine lv_iload_n hx hb dX11_isFunction_0 rfl (lv_at hl 0 rfl) ?_
  refine lv_iconst (v := 3) hx hb dX11_isFunction_1 (by decide) ?_
  refine lv_icmp_lt (tgt := 15) hx hb dX11_isFunction_2 (by decide) (fun c1 => ?_) (fun c1 => ?_)
  · have hM := z_t c1 hM
    refine lv_iconst (v := 0) hx hb dX11_isFunction_15 (by decide) ?_
    have hM := hM
    subst hM
    exact W.zret (v := 0) (ty := .boolean) hx hb hr rfl (fun t ht hW => ⟨⟨_, (), rfl, rfl, ⟨by rw [ht]; exact hP, va_K.moved hW.alike hK, hD⟩⟩, hS.F ht⟩) hS.2.2 dX11_isFunction_16
  · have hM := z_f c1 hM
    refine lv_iload_n hx hb dX11_isFunction_5 rfl (lv_at hl 0 rfl) ?_
    refine lv_bipush (v := 6) hx hb dX11_isFunction_6 (by decide) ?_
    refine lv_icmp_gt (tgt := 15) hx hb dX11_isFunction_8 (by decide) (fun c2 => ?_) (fun c2 => ?_)
    · have hM := z_t c2 hM
      refine lv_iconst (v := 0) hx hb dX11_isFunction_15 (by decide) ?_
      have hM := hM
      subst hM
      exact W.zret (v := 0) (ty := .boolean) hx hb hr rfl (fun t ht hW => ⟨⟨_, (), rfl, rfl, ⟨by rw [ht]; exact hP, va_K.moved hW.alike hK, hD⟩⟩, hS.F ht⟩) hS.2.2 dX11_isFunction_16
    · have hM := z_f c2 hM
      refine lv_iconst (v := 1) hx hb dX11_isFunction_11 (by decide) ?_
      refine lv_goto (tgt := 16) hx hb dX11_isFunction_12 (by decide) ?_
      have hM := hM
      subst hM
      exact W.zret (v := 1) (ty := .boolean) hx hb hr rfl (fun t ht hW => ⟨⟨_, (), rfl, rfl, ⟨by rw [ht]; exact hP, va_K.moved hW.alike hK, hD⟩⟩, hS.F ht⟩) hS.2.2 dX11_isFunction_16
def fn_Parser_isOperator (x0 : Int32) : Int32 := (if x0 < 7 then 0 else (if 11 < x0 then 0 else 1))
set_option maxHeartbeats 40000000 in
set_option maxRecDepth 100000 in
theorem ct_Parser_isOperator (l : Launch) (D : va_G) (cI cJ cC : ClassId) (adK adV : Nat → Nat) (sz : Nat) (x0 : Int32) : Met l yX11_isOperator wsX11_isOperator ({ frames := 0, cells := 0, slots := 0, locals := 0 } : Room) (zP D cI cJ cC adK adV [.int x0] sz []) (zQi D cI cJ cC (fn_Parser_isOperator x0) [] (va_A [] sz)) 0 0 (va_A [] sz) := by
  obtain ⟨rs, hM⟩ : ∃ rs, fn_Parser_isOperator x0 = rs := ⟨_, rfl⟩
  rw [hM]
  refine Met.ofW (cc := cX11_isOperator) (maxL := 1) (ret := (some .boolean)) (by decide) rfl ?_
  intro p e s m args below meth c s₁ B hml hv0
  obtain ⟨hargs, hsz, hP, hK, hD0, hX⟩ := hv0
  have hx := B.exec
  have hb := B.bytes
  have hr := B.returns
  have hts := atoms_spec (ws := wsX11_isOperator) B.pre
  have hown : s.vm.findClass RX11 = some m.cls := findClass_of_methodNamed B.named
  have hlocks := B.notSynchronized
  subst hsz
  have hD := hD0.self (sz := s.heap.size)
  generalize hAe : va_A [] s.heap.size = A at hD hX ⊢
  have hA : ∀ q : Nat, s.heap.size ≤ q → A q := fun q h => by rw [← hAe]; exact Or.inr h
  have hS : va_S A s.heap s.heap [] := va_S.rf
  have hl := lv_entry ([.int x0]) (n := 1) (Nat.le_of_ble_eq_true rfl)
  rw [hargs, lg_entry_eq, ← hargs]
  generalize (lg_sl ([.int x0]) ++ List.replicate (1 - (lg_sl ([.int x0])).length) Slot.unset).toArray = ls at hl ⊢
  have hl : lv_has ls 1 [(0, .int x0)] := hl
  refine lv_iload_n hx hb dX11_isOperator_0 rfl (lv_at hl 0 rfl) ?_
  refine lv_bipush (v := 7) hx hb dX11_isOperator_1 (by decide) ?_
  refine lv_icmp_lt (tgt := 16) hx hb dX11_isOperator_3 (by decide) (fun c1 => ?_) (fun c1 => ?_)
  · have hM := z_t c1 hM
    refine lv_iconst (v := 0) hx hb dX11_isOperator_16 (by decide) ?_
    have hM := hM
    subst hM
    exact W.zret (v := 0) (ty := .boolean) hx hb hr rfl (fun t ht hW => ⟨⟨_, (), rfl, rfl, ⟨by rw [ht]; exact hP, va_K.moved hW.alike hK, hD⟩⟩, hS.F ht⟩) hS.2.2 dX11_isOperator_17
  · have hM := z_f c1 hM
    refine lv_iload_n hx hb dX11_isOperator_6 rfl (lv_at hl 0 rfl) ?_
    refine lv_bipush (v := 11) hx hb dX11_isOperator_7 (by decide) ?_
    refine lv_icmp_gt (tgt := 16) hx hb dX11_isOperator_9 (by decide) (fun c2 => ?_) (fun c2 => ?_)
    · have hM := z_t c2 hM
      refine lv_iconst (v := 0) hx hb dX11_isOperator_16 (by decide) ?_
      have hM := hM
      subst hM
      exact W.zret (v := 0) (ty := .boolean) hx hb hr rfl (fun t ht hW => ⟨⟨_, (), rfl, rfl, ⟨by rw [ht]; exact hP, va_K.moved hW.alike hK, hD⟩⟩, hS.F ht⟩) hS.2.2 dX11_isOperator_17
    · have hM := z_f c2 hM
      refine lv_iconst (v := 1) hx hb dX11_isOperator_12 (by decide) ?_
      refine lv_goto (tgt := 17) hx hb dX11_isOperator_13 (by decide) ?_
      have hM := hM
      subst hM
      exact W.zret (v := 1) (ty := .boolean) hx hb hr rfl (fun t ht hW => ⟨⟨_, (), rfl, rfl, ⟨by rw [ht]; exact hP, va_K.moved hW.alike hK, hD⟩⟩, hS.F ht⟩) hS.2.2 dX11_isOperator_17
def fn_Parser_isBinary (x0 : Int32) : Int32 := (if x0 < 7 then 0 else (if 12 < x0 then 0 else 1))
set_option maxHeartbeats 40000000 in
set_option maxRecDepth 100000 in
theorem ct_Parser_isBinary (l : Launch) (D : va_G) (cI cJ cC : ClassId) (adK adV : Nat → Nat) (sz : Nat) (x0 : Int32) : Met l yX11_isBinary wsX11_isBinary ({ frames := 0, cells := 0, slots := 0, locals := 0 } : Room) (zP D cI cJ cC adK adV [.int x0] sz []) (zQi D cI cJ cC (fn_Parser_isBinary x0) [] (va_A [] sz)) 0 0 (va_A [] sz) := by
  obtain ⟨rs, hM⟩ : ∃ rs, fn_Parser_isBinary x0 = rs := ⟨_, rfl⟩
  rw [hM]
  refine Met.ofW (cc := cX11_isBinary) (maxL := 1) (ret := (some .boolean)) (by decide) rfl ?_
  intro p e s m args below meth c s₁ B hml hv0
  obtain ⟨hargs, hsz, hP, hK, hD0, hX⟩ := hv0
  have hx := B.exec
  have hb := B.bytes
  have hr := B.returns
  have hts := atoms_spec (ws := wsX11_isBinary) B.pre
  have hown : s.vm.findClass RX11 = some m.cls := findClass_of_methodNamed B.named
  have hlocks := B.notSynchronized
  subst hsz
  have hD := hD0.self (sz := s.heap.size)
  generalize hAe : va_A [] s.heap.size = A at hD hX ⊢
  have hA : ∀ q : Nat, s.heap.size ≤ q → A q := fun q h => by rw [← hAe]; exact Or.inr h
  have hS : va_S A s.heap s.heap [] := va_S.rf
  have hl := lv_entry ([.int x0]) (n := 1) (Nat.le_of_ble_eq_true rfl)
  rw [hargs, lg_entry_eq, ← hargs]
  generalize (lg_sl ([.int x0]) ++ List.replicate (1 - (lg_sl ([.int x0])).length) Slot.unset).toArray = ls at hl ⊢
  have hl : lv_has ls 1 [(0, .int x0)] := hl
  refine lv_iload_n hx hb dX11_isBinary_0 rfl (lv_at hl 0 rfl) ?_
  refine lv_bipush (v := 7) hx hb dX11_isBinary_1 (by decide) ?_
  refine lv_icmp_lt (tgt := 16) hx hb dX11_isBinary_3 (by decide) (fun c1 => ?_) (fun c1 => ?_)
  · have hM := z_t c1 hM
    refine lv_iconst (v := 0) hx hb dX11_isBinary_16 (by decide) ?_
    have hM := hM
    subst hM
    exact W.zret (v := 0) (ty := .boolean) hx hb hr rfl (fun t ht hW => ⟨⟨_, (), rfl, rfl, ⟨by rw [ht]; exact hP, va_K.moved hW.alike hK, hD⟩⟩, hS.F ht⟩) hS.2.2 dX11_isBinary_17
  · have hM := z_f c1 hM
    refine lv_iload_n hx hb dX11_isBinary_6 rfl (lv_at hl 0 rfl) ?_
    refine lv_bipush (v := 12) hx hb dX11_isBinary_7 (by decide) ?_
    refine lv_icmp_gt (tgt := 16) hx hb dX11_isBinary_9 (by decide) (fun c2 => ?_) (fun c2 => ?_)
    · have hM := z_t c2 hM
      refine lv_iconst (v := 0) hx hb dX11_isBinary_16 (by decide) ?_
      have hM := hM
      subst hM
      exact W.zret (v := 0) (ty := .boolean) hx hb hr rfl (fun t ht hW => ⟨⟨_, (), rfl, rfl, ⟨by rw [ht]; exact hP, va_K.moved hW.alike hK, hD⟩⟩, hS.F ht⟩) hS.2.2 dX11_isBinary_17
    · have hM := z_f c2 hM
      refine lv_iconst (v := 1) hx hb dX11_isBinary_12 (by decide) ?_
      refine lv_goto (tgt := 17) hx hb dX11_isBinary_13 (by decide) ?_
      have hM := hM
      subst hM
      exact W.zret (v := 1) (ty := .boolean) hx hb hr rfl (fun t ht hW => ⟨⟨_, (), rfl, rfl, ⟨by rw [ht]; exact hP, va_K.moved hW.alike hK, hD⟩⟩, hS.F ht⟩) hS.2.2 dX11_isBinary_17
def fn_Parser_isBinaryOrNegation (x0 : Int32) : Int32 := (if x0 < 7 then 0 else (if 13 < x0 then 0 else 1))
set_option maxHeartbeats 40000000 in
set_option maxRecDepth 100000 in
theorem ct_Parser_isBinaryOrNegation (l : Launch) (D : va_G) (cI cJ cC : ClassId) (adK adV : Nat → Nat) (sz : Nat) (x0 : Int32) : Met l yX11_isBinaryOrNegation wsX11_isBinaryOrNegation ({ frames := 0, cells := 0, slots := 0, locals := 0 } : Room) (zP D cI cJ cC adK adV [.int x0] sz []) (zQi D cI cJ cC (fn_Parser_isBinaryOrNegation x0) [] (va_A [] sz)) 0 0 (va_A [] sz) := by
  obtain ⟨rs, hM⟩ : ∃ rs, fn_Parser_isBinaryOrNegation x0 = rs := ⟨_, rfl⟩
  rw [hM]
  refine Met.ofW (cc := cX11_isBinaryOrNegation) (maxL := 1) (ret := (some .boolean)) (by decide) rfl ?_
  intro p e s m args below meth c s₁ B hml hv0
  obtain ⟨hargs, hsz, hP, hK, hD0, hX⟩ := hv0
  have hx := B.exec
  have hb := B.bytes
  have hr := B.returns
  have hts := atoms_spec (ws := wsX11_isBinaryOrNegation) B.pre
  have hown : s.vm.findClass RX11 = some m.cls := findClass_of_methodNamed B.named
  have hlocks := B.notSynchronized
  subst hsz
  have hD := hD0.self (sz := s.heap.size)
  generalize hAe : va_A [] s.heap.size = A at hD hX ⊢
  have hA : ∀ q : Nat, s.heap.size ≤ q → A q := fun q h => by rw [← hAe]; exact Or.inr h
  have hS : va_S A s.heap s.heap [] := va_S.rf
  have hl := lv_entry ([.int x0]) (n := 1) (Nat.le_of_ble_eq_true rfl)
  rw [hargs, lg_entry_eq, ← hargs]
  generalize (lg_sl ([.int x0]) ++ List.replicate (1 - (lg_sl ([.int x0])).length) Slot.unset).toArray = ls at hl ⊢
  have hl : lv_has ls 1 [(0, .int x0)] := hl
  refine lv_iload_n hx hb dX11_isBinaryOrNegation_0 rfl (lv_at hl 0 rfl) ?_
  refine lv_bipush (v := 7) hx hb dX11_isBinaryOrNegation_1 (by decide) ?_
  refine lv_icmp_lt (tgt := 16) hx hb dX11_isBinaryOrNegation_3 (by decide) (fun c1 => ?_) (fun c1 => ?_)
  · have hM := z_t c1 hM
    refine lv_iconst (v := 0) hx hb dX11_isBinaryOrNegation_16 (by decide) ?_
    have hM := hM
    subst hM
    exact W.zret (v := 0) (ty := .boolean) hx hb hr rfl (fun t ht hW => ⟨⟨_, (), rfl, rfl, ⟨by rw [ht]; exact hP, va_K.moved hW.alike hK, hD⟩⟩, hS.F ht⟩) hS.2.2 dX11_isBinaryOrNegation_17
  · have hM := z_f c1 hM
    refine lv_iload_n hx hb dX11_isBinaryOrNegation_6 rfl (lv_at hl 0 rfl) ?_
    refine lv_bipush (v := 13) hx hb dX11_isBinaryOrNegation_7 (by decide) ?_
    refine lv_icmp_gt (tgt := 16) hx hb dX11_isBinaryOrNegation_9 (by decide) (fun c2 => ?_) (fun c2 => ?_)
    · have hM := z_t c2 hM
      refine lv_iconst (v := 0) hx hb dX11_isBinaryOrNegation_16 (by decide) ?_
      have hM := hM
      subst hM
      exact W.zret (v := 0) (ty := .boolean) hx hb hr rfl (fun t ht hW => ⟨⟨_, (), rfl, rfl, ⟨by rw [ht]; exact hP, va_K.moved hW.alike hK, hD⟩⟩, hS.F ht⟩) hS.2.2 dX11_isBinaryOrNegation_17
    · have hM := z_f c2 hM
      refine lv_iconst (v := 1) hx hb dX11_isBinaryOrNegation_12 (by decide) ?_
      refine lv_goto (tgt := 17) hx hb dX11_isBinaryOrNegation_13 (by decide) ?_
      have hM := hM
      subst hM
      exact W.zret (v := 1) (ty := .boolean) hx hb hr rfl (fun t ht hW => ⟨⟨_, (), rfl, rfl, ⟨by rw [ht]; exact hP, va_K.moved hW.alike hK, hD⟩⟩, hS.F ht⟩) hS.2.2 dX11_isBinaryOrNegation_17
def fn_Parser_startsLink (x0 : Int32) : Int32 := (if x0 < 14 then 0 else (if 20 < x0 then 0 else 1))
set_option maxHeartbeats 40000000 in
set_option maxRecDepth 100000 in
theorem ct_Parser_startsLink (l : Launch) (D : va_G) (cI cJ cC : ClassId) (adK adV : Nat → Nat) (sz : Nat) (x0 : Int32) : Met l yX11_startsLink wsX11_startsLink ({ frames := 0, cells := 0, slots := 0, locals := 0 } : Room) (zP D cI cJ cC adK adV [.int x0] sz []) (zQi D cI cJ cC (fn_Parser_startsLink x0) [] (va_A [] sz)) 0 0 (va_A [] sz) := by
  obtain ⟨rs, hM⟩ : ∃ rs, fn_Parser_startsLink x0 = rs := ⟨_, rfl⟩
  rw [hM]
  refine Met.ofW (cc := cX11_startsLink) (maxL := 1) (ret := (some .boolean)) (by decide) rfl ?_
  intro p e s m args below meth c s₁ B hml hv0
  obtain ⟨hargs, hsz, hP, hK, hD0, hX⟩ := hv0
  have hx := B.exec
  have hb := B.bytes
  have hr := B.returns
  have hts := atoms_spec (ws := wsX11_startsLink) B.pre
  have hown : s.vm.findClass RX11 = some m.cls := findClass_of_methodNamed B.named
  have hlocks := B.notSynchronized
  subst hsz
  have hD := hD0.self (sz := s.heap.size)
  generalize hAe : va_A [] s.heap.size = A at hD hX ⊢
  have hA : ∀ q : Nat, s.heap.size ≤ q → A q := fun q h => by rw [← hAe]; exact Or.inr h
  have hS : va_S A s.heap s.heap [] := va_S.rf
  have hl := lv_entry ([.int x0]) (n := 1) (Nat.le_of_ble_eq_true rfl)
  rw [hargs, lg_entry_eq, ← hargs]
  generalize (lg_sl ([.int x0]) ++ List.replicate (1 - (lg_sl ([.int x0])).length) Slot.unset).toArray = ls at hl ⊢
  have hl : lv_has ls 1 [(0, .int x0)] := hl
  refine lv_iload_n hx hb dX11_startsLink_0 rfl (lv_at hl 0 rfl) ?_
  refine lv_bipush (v := 14) hx hb dX11_startsLink_1 (by decide) ?_
  refine lv_icmp_lt (tgt := 16) hx hb dX11_startsLink_3 (by decide) (fun c1 => ?_) (fun c1 => ?_)
  · have hM := z_t c1 hM
    refine lv_iconst (v := 0) hx hb dX11_startsLink_16 (by decide) ?_
    have hM := hM
    subst hM
    exact W.zret (v := 0) (ty := .boolean) hx hb hr rfl (fun t ht hW => ⟨⟨_, (), rfl, rfl, ⟨by rw [ht]; exact hP, va_K.moved hW.alike hK, hD⟩⟩, hS.F ht⟩) hS.2.2 dX11_startsLink_17
  · have hM := z_f c1 hM
    refine lv_iload_n hx hb dX11_startsLink_6 rfl (lv_at hl 0 rfl) ?_
    refine lv_bipush (v := 20) hx hb dX11_startsLink_7 (by decide) ?_
    refine lv_icmp_gt (tgt := 16) hx hb dX11_startsLink_9 (by decide) (fun c2 => ?_) (fun c2 => ?_)
    · have hM := z_t c2 hM
      refine lv_iconst (v := 0) hx hb dX11_startsLink_16 (by decide) ?_
      have hM := hM
      subst hM
      exact W.zret (v := 0) (ty := .boolean) hx hb hr rfl (fun t ht hW => ⟨⟨_, (), rfl, rfl, ⟨by rw [ht]; exact hP, va_K.moved hW.alike hK, hD⟩⟩, hS.F ht⟩) hS.2.2 dX11_startsLink_17
    · have hM := z_f c2 hM
      refine lv_iconst (v := 1) hx hb dX11_startsLink_12 (by decide) ?_
      refine lv_goto (tgt := 17) hx hb dX11_startsLink_13 (by decide) ?_
      have hM := hM
      subst hM
      exact W.zret (v := 1) (ty := .boolean) hx hb hr rfl (fun t ht hW => ⟨⟨_, (), rfl, rfl, ⟨by rw [ht]; exact hP, va_K.moved hW.alike hK, hD⟩⟩, hS.F ht⟩) hS.2.2 dX11_startsLink_17
def fn_Parser_startsSum (x0 : Int32) : Int32 := (if x0 < 14 then 0 else (if 21 < x0 then 0 else 1))
set_option maxHeartbeats 40000000 in
set_option maxRecDepth 100000 in
theorem ct_Parser_startsSum (l : Launch) (D : va_G) (cI cJ cC : ClassId) (adK adV : Nat → Nat) (sz : Nat) (x0 : Int32) : Met l yX11_startsSum wsX11_startsSum ({ frames := 0, cells := 0, slots := 0, locals := 0 } : Room) (zP D cI cJ cC adK adV [.int x0] sz []) (zQi D cI cJ cC (fn_Parser_startsSum x0) [] (va_A [] sz)) 0 0 (va_A [] sz) := by
  obtain ⟨rs, hM⟩ : ∃ rs, fn_Parser_startsSum x0 = rs := ⟨_, rfl⟩
  rw [hM]
  refine Met.ofW (cc := cX11_startsSum) (maxL := 1) (ret := (some .boolean)) (by decide) rfl ?_
  intro p e s m args below meth c s₁ B hml hv0
  obtain ⟨hargs, hsz, hP, hK, hD0, hX⟩ := hv0
  have hx := B.exec
  have hb := B.bytes
  have hr := B.returns
  have hts := atoms_spec (ws := wsX11_startsSum) B.pre
  have hown : s.vm.findClass RX11 = some m.cls := findClass_of_methodNamed B.named
  have hlocks := B.notSynchronized
  subst hsz
  have hD := hD0.self (sz := s.heap.size)
  generalize hAe : va_A [] s.heap.size = A at hD hX ⊢
  have hA : ∀ q : Nat, s.heap.size ≤ q → A q := fun q h => by rw [← hAe]; exact Or.inr h
  have hS : va_S A s.heap s.heap [] := va_S.rf
  have hl := lv_entry ([.int x0]) (n := 1) (Nat.le_of_ble_eq_true rfl)
  rw [hargs, lg_entry_eq, ← hargs]
  generalize (lg_sl ([.int x0]) ++ List.replicate (1 - (lg_sl ([.int x0])).length) Slot.unset).toArray = ls at hl ⊢
  have hl : lv_has ls 1 [(0, .int x0)] := hl
  refine lv_iload_n hx hb dX11_startsSum_0 rfl (lv_at hl 0 rfl) ?_
  refine lv_bipush (v := 14) hx hb dX11_startsSum_1 (by decide) ?_
  refine lv_icmp_lt (tgt := 16) hx hb dX11_startsSum_3 (by decide) (fun c1 => ?_) (fun c1 => ?_)
  · have hM := z_t c1 hM
    refine lv_iconst (v := 0) hx hb dX11_startsSum_16 (by decide) ?_
    have hM := hM
    subst hM
    exact W.zret (v := 0) (ty := .boolean) hx hb hr rfl (fun t ht hW => ⟨⟨_, (), rfl, rfl, ⟨by rw [ht]; exact hP, va_K.moved hW.alike hK, hD⟩⟩, hS.F ht⟩) hS.2.2 dX11_startsSum_17
  · have hM := z_f c1 hM
    refine lv_iload_n hx hb dX11_startsSum_6 rfl (lv_at hl 0 rfl) ?_
    refine lv_bipush (v := 21) hx hb dX11_startsSum_7 (by decide) ?_
    refine lv_icmp_gt (tgt := 16) hx hb dX11_startsSum_9 (by decide) (fun c2 => ?_) (fun c2 => ?_)
    · have hM := z_t c2 hM
      refine lv_iconst (v := 0) hx hb dX11_startsSum_16 (by decide) ?_
      have hM := hM
      subst hM
      exact W.zret (v := 0) (ty := .boolean) hx hb hr rfl (fun t ht hW => ⟨⟨_, (), rfl, rfl, ⟨by rw [ht]; exact hP, va_K.moved hW.alike hK, hD⟩⟩, hS.F ht⟩) hS.2.2 dX11_startsSum_17
    · have hM := z_f c2 hM
      refine lv_iconst (v := 1) hx hb dX11_startsSum_12 (by decide) ?_
      refine lv_goto (tgt := 17) hx hb dX11_startsSum_13 (by decide) ?_
      have hM := hM
      subst hM
      exact W.zret (v := 1) (ty := .boolean) hx hb hr rfl (fun t ht hW => ⟨⟨_, (), rfl, rfl, ⟨by rw [ht]; exact hP, va_K.moved hW.alike hK, hD⟩⟩, hS.F ht⟩) hS.2.2 dX11_startsSum_17
def fn_Parser_startsPower_b11 (x0 : Int32) : Int32 := (if x0 = 22 then 1 else 0)
def fn_Parser_startsPower (x0 : Int32) : Int32 := (if x0 < 1 then fn_Parser_startsPower_b11 x0 else (if x0 ≤ 6 then 1 else fn_Parser_startsPower_b11 x0))
set_option maxHeartbeats 40000000 in
set_option maxRecDepth 100000 in
theorem ct_Parser_startsPower (l : Launch) (D : va_G) (cI cJ cC : ClassId) (adK adV : Nat → Nat) (sz : Nat) (x0 : Int32) : Met l yX11_startsPower wsX11_startsPower ({ frames := 0, cells := 0, slots := 0, locals := 0 } : Room) (zP D cI cJ cC adK adV [.int x0] sz []) (zQi D cI cJ cC (fn_Parser_startsPower x0) [] (va_A [] sz)) 0 0 (va_A [] sz) := by
  obtain ⟨rs, hM⟩ : ∃ rs, fn_Parser_startsPower x0 = rs := ⟨_, rfl⟩
  rw [hM]
  refine Met.ofW (cc := cX11_startsPower) (maxL := 1) (ret := (some .boolean)) (by decide) rfl ?_
  intro p e s m args below meth c s₁ B hml hv0
  obtain ⟨hargs, hsz, hP, hK, hD0, hX⟩ := hv0
  have hx := B.exec
  have hb := B.bytes
  have hr := B.returns
  have hts := atoms_spec (ws := wsX11_startsPower) B.pre
  have hown : s.vm.findClass RX11 = some m.cls := findClass_of_methodNamed B.named
  have hlocks := B.notSynchronized
  subst hsz
  have hD := hD0.self (sz := s.heap.size)
  generalize hAe : va_A [] s.heap.size = A at hD hX ⊢
  have hA : ∀ q : Nat, s.heap.size ≤ q → A q := fun q h => by rw [← hAe]; exact Or.inr h
  have hS : va_S A s.heap s.heap [] := va_S.rf
  have hl := lv_entry ([.int x0]) (n := 1) (Nat.le_of_ble_eq_true rfl)
  rw [hargs, lg_entry_eq, ← hargs]
  generalize (lg_sl ([.int x0]) ++ List.replicate (1 - (lg_sl ([.int x0])).length) Slot.unset).toArray = ls at hl ⊢
  have hl : lv_has ls 1 [(0, .int x0)] := hl
  have B_11_0 : ∀ (x0 : Int32) (H : Heap) (locs : List Loc) (ls : Array Slot), va_P D vwCl [] H → va_D A [] → va_S A s.heap H locs → lv_has ls 1 [(0, .int x0)] → fn_Parser_startsPower_b11  x0 = rs → W p l e (headSpec wsX11_startsPower ({ frames := 0, cells := 0, slots := 0, locals := 0 } : Room)).room s m args below meth c H locs 0 0 (MQ below (zQi D cI cJ cC rs [] A) args s 0 0 A) (F0 m 11 ls []) := by
    intro  x0 H locs ls hP hD hS hl hM
    refine lv_iload_n hx hb dX11_startsPower_11 rfl (lv_at hl 0 rfl) ?_
    refine lv_bipush (v := 22) hx hb dX11_startsPower_12 (by decide) ?_
    refine lv_icmp_ne (tgt := 21) hx hb dX11_startsPower_14 (by decide) (fun c2 => ?_) (fun c2 => ?_)
    · have hM := z_f c2 hM
      refine lv_iconst (v := 0) hx hb dX11_startsPower_21 (by decide) ?_
      have hM := hM
      subst hM
      exact W.zret (v := 0) (ty := .boolean) hx hb hr rfl (fun t ht hW => ⟨⟨_, (), rfl, rfl, ⟨by rw [ht]; exact hP, va_K.moved hW.alike hK, hD⟩⟩, hS.F ht⟩) hS.2.2 dX11_startsPower_22
    · have hM := z_t c2 hM
      refine lv_iconst (v := 1) hx hb dX11_startsPower_17 (by decide) ?_
      refine lv_goto (tgt := 22) hx hb dX11_startsPower_18 (by decide) ?_
      have hM := hM
      subst hM
      exact W.zret (v := 1) (ty := .boolean) hx hb hr rfl (fun t ht hW => ⟨⟨_, (), rfl, rfl, ⟨by rw [ht]; exact hP, va_K.moved hW.alike hK, hD⟩⟩, hS.F ht⟩) hS.2.2 dX11_startsPower_22
  refine lv_iload_n hx hb dX11_startsPower_0 rfl (lv_at hl 0 rfl) ?_
  refine lv_iconst (v := 1) hx hb dX11_startsPower_1 (by decide) ?_
  refine lv_icmp_lt (tgt := 11) hx hb dX11_startsPower_2 (by decide) (fun c1 => ?_) (fun c1 => ?_)
  · have hM := z_t c1 hM
    exact B_11_0  x0 _ _ ls hP hD hS (lv_sub hl [0] rfl) hM
  · have hM := z_f c1 hM
    refine lv_iload_n hx hb dX11_startsPower_5 rfl (lv_at hl 0 rfl) ?_
    refine lv_bipush (v := 6) hx hb dX11_startsPower_6 (by decide) ?_
    refine lv_icmp_le (tgt := 17) hx hb dX11_startsPower_8 (by decide) (fun c3 => ?_) (fun c3 => ?_)
    · have hM := z_t c3 hM
      refine lv_iconst (v := 1) hx hb dX11_startsPower_17 (by decide) ?_
      refine lv_goto (tgt := 22) hx hb dX11_startsPower_18 (by decide) ?_
      have hM := hM
      subst hM
      exact W.zret (v := 1) (ty := .boolean) hx hb hr rfl (fun t ht hW => ⟨⟨_, (), rfl, rfl, ⟨by rw [ht]; exact hP, va_K.moved hW.alike hK, hD⟩⟩, hS.F ht⟩) hS.2.2 dX11_startsPower_22
    · have hM := z_f c3 hM
      exact B_11_0  x0 _ _ ls hP hD hS (lv_sub hl [0] rfl) hM
def fn_Parser_symbolOf (x0 : Int32) : Nat := (if x0 = 3 then 0 else (if x0 = 4 then 1 else (if x0 = 5 then 2 else (if x0 = 6 then 3 else (if x0 = 7 then 4 else (if x0 = 8 then 5 else (if x0 = 9 then 6 else (if x0 = 10 then 7 else (if x0 = 11 then 8 else (if x0 = 12 then 6 else (if x0 = 13 then 17 else (if x0 = 14 then 9 else (if x0 = 15 then 10 else (if x0 = 16 then 11 else (if x0 = 17 then 12 else (if x0 = 18 then 13 else (if x0 = 19 then 14 else (if x0 = 20 then 15 else (if x0 = 21 then 16 else 17)))))))))))))))))))
set_option maxHeartbeats 40000000 in
set_option maxRecDepth 100000 in
theorem ct_Parser_symbolOf (l : Launch) (D : va_G) (cI cJ cC : ClassId) (adK adV : Nat → Nat) (sz : Nat) (x0 : Int32) : Met l yX11_symbolOf wsX11_symbolOf ({ frames := 0, cells := 0, slots := 0, locals := 0 } : Room) (zP D cI cJ cC adK adV [.int x0] sz []) (zQr D cI cJ cC (adK (fn_Parser_symbolOf x0)) [] (va_A [] sz)) 0 0 (va_A [] sz) := by
  obtain ⟨rs, hM⟩ : ∃ rs, fn_Parser_symbolOf x0 = rs := ⟨_, rfl⟩
  rw [hM]
  refine Met.ofW (cc := cX11_symbolOf) (maxL := 1) (ret := (some (.object "java/lang/String"))) (by decide) rfl ?_
  intro p e s m args below meth c s₁ B hml hv0
  obtain ⟨hargs, hsz, hP, hK, hD0, hX⟩ := hv0
  have hx := B.exec
  have hb := B.bytes
  have hr := B.returns
  have hts := atoms_spec (ws := wsX11_symbolOf) B.pre
  have hown : s.vm.findClass RX11 = some m.cls := findClass_of_methodNamed B.named
  have hlocks := B.notSynchronized
  subst hsz
  have hD := hD0.self (sz := s.heap.size)
  generalize hAe : va_A [] s.heap.size = A at hD hX ⊢
  have hA : ∀ q : Nat, s.heap.size ≤ q → A q := fun q h => by rw [← hAe]; exact Or.inr h
  have hS : va_S A s.heap s.heap [] := va_S.rf
  have hl := lv_entry ([.int x0]) (n := 1) (Nat.le_of_ble_eq_true rfl)
  rw [hargs, lg_entry_eq, ← hargs]
  generalize (lg_sl ([.int x0]) ++ List.replicate (1 - (lg_sl ([.int x0])).length) Slot.unset).toArray = ls at hl ⊢
  have hl : lv_has ls 1 [(0, .int x0)] := hl
  refine lv_iload_n hx hb dX11_symbolOf_0 rfl (lv_at hl 0 rfl) ?_
  by_cases c1 : x0 = 3
  · have hM := z_t c1 hM
    refine lv_tableIn (tgt := 92) (off := 91) hx hb dX11_symbolOf_1 (by rw [c1]; decide) (by rw [c1]; decide) (by rw [c1]; decide +kernel) (by decide) ?_
    refine va_ldcS (tx := "abs") hx hb hown (hX.2.2.1 0 (RX11, 188, "abs") rfl) dX11_symbolOf_92 ?_
    have hM := hM
    subst hM
    exact W.aret (v := .ref (adK 0)) hx hb hr (Or.inl ⟨_, rfl⟩) (Or.inr ⟨_, rfl⟩) (fun t ht hW => ⟨⟨(), _, rfl, trivial, ⟨rfl, by rw [ht]; exact hP, va_K.moved hW.alike hK, hD⟩⟩, hS.F ht⟩) hS.2.2 dX11_symbolOf_94
  · have hM := z_f c1 hM
    by_cases c2 : x0 = 4
    · have hM := z_t c2 hM
      refine lv_tableIn (tgt := 95) (off := 94) hx hb dX11_symbolOf_1 (by rw [c2]; decide) (by rw [c2]; decide) (by rw [c2]; decide +kernel) (by decide) ?_
      refine va_ldcS (tx := "sgn") hx hb hown (hX.2.2.1 1 (RX11, 190, "sgn") rfl) dX11_symbolOf_95 ?_
      have hM := hM
      subst hM
      exact W.aret (v := .ref (adK 1)) hx hb hr (Or.inl ⟨_, rfl⟩) (Or.inr ⟨_, rfl⟩) (fun t ht hW => ⟨⟨(), _, rfl, trivial, ⟨rfl, by rw [ht]; exact hP, va_K.moved hW.alike hK, hD⟩⟩, hS.F ht⟩) hS.2.2 dX11_symbolOf_97
    · have hM := z_f c2 hM
      by_cases c3 : x0 = 5
      · have hM := z_t c3 hM
        refine lv_tableIn (tgt := 98) (off := 97) hx hb dX11_symbolOf_1 (by rw [c3]; decide) (by rw [c3]; decide) (by rw [c3]; decide +kernel) (by decide) ?_
        refine va_ldcS (tx := "sqr") hx hb hown (hX.2.2.1 2 (RX11, 192, "sqr") rfl) dX11_symbolOf_98 ?_
        have hM := hM
        subst hM
        exact W.aret (v := .ref (adK 2)) hx hb hr (Or.inl ⟨_, rfl⟩) (Or.inr ⟨_, rfl⟩) (fun t ht hW => ⟨⟨(), _, rfl, trivial, ⟨rfl, by rw [ht]; exact hP, va_K.moved hW.alike hK, hD⟩⟩, hS.F ht⟩) hS.2.2 dX11_symbolOf_100
      · have hM := z_f c3 hM
        by_cases c4 : x0 = 6
        · have hM := z_t c4 hM
          refine lv_tableIn (tgt := 101) (off := 100) hx hb dX11_symbolOf_1 (by rw [c4]; decide) (by rw [c4]; decide) (by rw [c4]; decide +kernel) (by decide) ?_
          refine va_ldcS (tx := "dbl") hx hb hown (hX.2.2.1 3 (RX11, 194, "dbl") rfl) dX11_symbolOf_101 ?_
          have hM := hM
          subst hM
          exact W.aret (v := .ref (adK 3)) hx hb hr (Or.inl ⟨_, rfl⟩) (Or.inr ⟨_, rfl⟩) (fun t ht hW => ⟨⟨(), _, rfl, trivial, ⟨rfl, by rw [ht]; exact hP, va_K.moved hW.alike hK, hD⟩⟩, hS.F ht⟩) hS.2.2 dX11_symbolOf_103
        · have hM := z_f c4 hM
          by_cases c5 : x0 = 7
          · have hM := z_t c5 hM
            refine lv_tableIn (tgt := 104) (off := 103) hx hb dX11_symbolOf_1 (by rw [c5]; decide) (by rw [c5]; decide) (by rw [c5]; decide +kernel) (by decide) ?_
            refine va_ldcS (tx := "+") hx hb hown (hX.2.2.1 4 (RX11, 196, "+") rfl) dX11_symbolOf_104 ?_
            have hM := hM
            subst hM
            exact W.aret (v := .ref (adK 4)) hx hb hr (Or.inl ⟨_, rfl⟩) (Or.inr ⟨_, rfl⟩) (fun t ht hW => ⟨⟨(), _, rfl, trivial, ⟨rfl, by rw [ht]; exact hP, va_K.moved hW.alike hK, hD⟩⟩, hS.F ht⟩) hS.2.2 dX11_symbolOf_106
          · have hM := z_f c5 hM
            by_cases c6 : x0 = 8
            · have hM := z_t c6 hM
              refine lv_tableIn (tgt := 107) (off := 106) hx hb dX11_symbolOf_1 (by rw [c6]; decide) (by rw [c6]; decide) (by rw [c6]; decide +kernel) (by decide) ?_
              refine va_ldcS (tx := "-") hx hb hown (hX.2.2.1 5 (RX11, 198, "-") rfl) dX11_symbolOf_107 ?_
              have hM := hM
              subst hM
              exact W.aret (v := .ref (adK 5)) hx hb hr (Or.inl ⟨_, rfl⟩) (Or.inr ⟨_, rfl⟩) (fun t ht hW => ⟨⟨(), _, rfl, trivial, ⟨rfl, by rw [ht]; exact hP, va_K.moved hW.alike hK, hD⟩⟩, hS.F ht⟩) hS.2.2 dX11_symbolOf_109
            · have hM := z_f c6 hM
              by_cases c7 : x0 = 9
              · have hM := z_t c7 hM
                refine lv_tableIn (tgt := 110) (off := 109) hx hb dX11_symbolOf_1 (by rw [c7]; decide) (by rw [c7]; decide) (by rw [c7]; decide +kernel) (by decide) ?_
                refine va_ldcS (tx := "*") hx hb hown (hX.2.2.1 6 (RX11, 200, "*") rfl) dX11_symbolOf_110 ?_
                have hM := hM
                subst hM
                exact W.aret (v := .ref (adK 6)) hx hb hr (Or.inl ⟨_, rfl⟩) (Or.inr ⟨_, rfl⟩) (fun t ht hW => ⟨⟨(), _, rfl, trivial, ⟨rfl, by rw [ht]; exact hP, va_K.moved hW.alike hK, hD⟩⟩, hS.F ht⟩) hS.2.2 dX11_symbolOf_112
              · have hM := z_f c7 hM
                by_cases c8 : x0 = 10
                · have hM := z_t c8 hM
                  refine lv_tableIn (tgt := 113) (off := 112) hx hb dX11_symbolOf_1 (by rw [c8]; decide) (by rw [c8]; decide) (by rw [c8]; decide +kernel) (by decide) ?_
                  refine va_ldcS (tx := "/") hx hb hown (hX.2.2.1 7 (RX11, 202, "/") rfl) dX11_symbolOf_113 ?_
                  have hM := hM
                  subst hM
                  exact W.aret (v := .ref (adK 7)) hx hb hr (Or.inl ⟨_, rfl⟩) (Or.inr ⟨_, rfl⟩) (fun t ht hW => ⟨⟨(), _, rfl, trivial, ⟨rfl, by rw [ht]; exact hP, va_K.moved hW.alike hK, hD⟩⟩, hS.F ht⟩) hS.2.2 dX11_symbolOf_115
                · have hM := z_f c8 hM
                  by_cases c9 : x0 = 11
                  · have hM := z_t c9 hM
                    refine lv_tableIn (tgt := 116) (off := 115) hx hb dX11_symbolOf_1 (by rw [c9]; decide) (by rw [c9]; decide) (by rw [c9]; decide +kernel) (by decide) ?_
                    refine va_ldcS (tx := "^") hx hb hown (hX.2.2.1 8 (RX11, 204, "^") rfl) dX11_symbolOf_116 ?_
                    have hM := hM
                    subst hM
                    exact W.aret (v := .ref (adK 8)) hx hb hr (Or.inl ⟨_, rfl⟩) (Or.inr ⟨_, rfl⟩) (fun t ht hW => ⟨⟨(), _, rfl, trivial, ⟨rfl, by rw [ht]; exact hP, va_K.moved hW.alike hK, hD⟩⟩, hS.F ht⟩) hS.2.2 dX11_symbolOf_118
                  · have hM := z_f c9 hM
                    by_cases c10 : x0 = 12
                    · have hM := z_t c10 hM
                      refine lv_tableIn (tgt := 119) (off := 118) hx hb dX11_symbolOf_1 (by rw [c10]; decide) (by rw [c10]; decide) (by rw [c10]; decide +kernel) (by decide) ?_
                      refine va_ldcS (tx := "*") hx hb hown (hX.2.2.1 6 (RX11, 200, "*") rfl) dX11_symbolOf_119 ?_
                      have hM := hM
                      subst hM
                      exact W.aret (v := .ref (adK 6)) hx hb hr (Or.inl ⟨_, rfl⟩) (Or.inr ⟨_, rfl⟩) (fun t ht hW => ⟨⟨(), _, rfl, trivial, ⟨rfl, by rw [ht]; exact hP, va_K.moved hW.alike hK, hD⟩⟩, hS.F ht⟩) hS.2.2 dX11_symbolOf_121
                    · have hM := z_f c10 hM
                      by_cases c11 : x0 = 13
                      · have hM := z_t c11 hM
                        refine lv_tableIn (tgt := 146) (off := 145) hx hb dX11_symbolOf_1 (by rw [c11]; decide) (by rw [c11]; decide) (by rw [c11]; decide +kernel) (by decide) ?_
                        refine va_ldcS (tx := "") hx hb hown (hX.2.2.1 17 (RX11, 222, "") rfl) dX11_symbolOf_146 ?_
                        have hM := hM
                        subst hM
                        exact W.aret (v := .ref (adK 17)) hx hb hr (Or.inl ⟨_, rfl⟩) (Or.inr ⟨_, rfl⟩) (fun t ht hW => ⟨⟨(), _, rfl, trivial, ⟨rfl, by rw [ht]; exact hP, va_K.moved hW.alike hK, hD⟩⟩, hS.F ht⟩) hS.2.2 dX11_symbolOf_148
                      · have hM := z_f c11 hM
                        by_cases c12 : x0 = 14
                        · have hM := z_t c12 hM
                          refine lv_tableIn (tgt := 122) (off := 121) hx hb dX11_symbolOf_1 (by rw [c12]; decide) (by rw [c12]; decide) (by rw [c12]; decide +kernel) (by decide) ?_
                          refine va_ldcS (tx := "=") hx hb hown (hX.2.2.1 9 (RX11, 206, "=") rfl) dX11_symbolOf_122 ?_
                          have hM := hM
                          subst hM
                          exact W.aret (v := .ref (adK 9)) hx hb hr (Or.inl ⟨_, rfl⟩) (Or.inr ⟨_, rfl⟩) (fun t ht hW => ⟨⟨(), _, rfl, trivial, ⟨rfl, by rw [ht]; exact hP, va_K.moved hW.alike hK, hD⟩⟩, hS.F ht⟩) hS.2.2 dX11_symbolOf_124
                        · have hM := z_f c12 hM
                          by_cases c13 : x0 = 15
                          · have hM := z_t c13 hM
                            refine lv_tableIn (tgt := 125) (off := 124) hx hb dX11_symbolOf_1 (by rw [c13]; decide) (by rw [c13]; decide) (by rw [c13]; decide +kernel) (by decide) ?_
                            refine va_ldcS (tx := "<") hx hb hown (hX.2.2.1 10 (RX11, 208, "<") rfl) dX11_symbolOf_125 ?_
                            have hM := hM
                            subst hM
                            exact W.aret (v := .ref (adK 10)) hx hb hr (Or.inl ⟨_, rfl⟩) (Or.inr ⟨_, rfl⟩) (fun t ht hW => ⟨⟨(), _, rfl, trivial, ⟨rfl, by rw [ht]; exact hP, va_K.moved hW.alike hK, hD⟩⟩, hS.F ht⟩) hS.2.2 dX11_symbolOf_127
                          · have hM := z_f c13 hM
                            by_cases c14 : x0 = 16
                            · have hM := z_t c14 hM
                              refine lv_tableIn (tgt := 128) (off := 127) hx hb dX11_symbolOf_1 (by rw [c14]; decide) (by rw [c14]; decide) (by rw [c14]; decide +kernel) (by decide) ?_
                              refine va_ldcS (tx := ">") hx hb hown (hX.2.2.1 11 (RX11, 210, ">") rfl) dX11_symbolOf_128 ?_
                              have hM := hM
                              subst hM
                              exact W.aret (v := .ref (adK 11)) hx hb hr (Or.inl ⟨_, rfl⟩) (Or.inr ⟨_, rfl⟩) (fun t ht hW => ⟨⟨(), _, rfl, trivial, ⟨rfl, by rw [ht]; exact hP, va_K.moved hW.alike hK, hD⟩⟩, hS.F ht⟩) hS.2.2 dX11_symbolOf_130
                            · have hM := z_f c14 hM
                              by_cases c15 : x0 = 17
                              · have hM := z_t c15 hM
                                refine lv_tableIn (tgt := 131) (off := 130) hx hb dX11_symbolOf_1 (by rw [c15]; decide) (by rw [c15]; decide) (by rw [c15]; decide +kernel) (by decide) ?_
                                refine va_ldcS (tx := "<=") hx hb hown (hX.2.2.1 12 (RX11, 212, "<=") rfl) dX11_symbolOf_131 ?_
                                have hM := hM
                                subst hM
                                exact W.aret (v := .ref (adK 12)) hx hb hr (Or.inl ⟨_, rfl⟩) (Or.inr ⟨_, rfl⟩) (fun t ht hW => ⟨⟨(), _, rfl, trivial, ⟨rfl, by rw [ht]; exact hP, va_K.moved hW.alike hK, hD⟩⟩, hS.F ht⟩) hS.2.2 dX11_symbolOf_133
                              · have hM := z_f c15 hM
                                by_cases c16 : x0 = 18
                                · have hM := z_t c16 hM
                                  refine lv_tableIn (tgt := 134) (off := 133) hx hb dX11_symbolOf_1 (by rw [c16]; decide) (by rw [c16]; decide) (by rw [c16]; decide +kernel) (by decide) ?_
                                  refine va_ldcS (tx := ">=") hx hb hown (hX.2.2.1 13 (RX11, 214, ">=") rfl) dX11_symbolOf_134 ?_
                                  have hM := hM
                                  subst hM
                                  exact W.aret (v := .ref (adK 13)) hx hb hr (Or.inl ⟨_, rfl⟩) (Or.inr ⟨_, rfl⟩) (fun t ht hW => ⟨⟨(), _, rfl, trivial, ⟨rfl, by rw [ht]; exact hP, va_K.moved hW.alike hK, hD⟩⟩, hS.F ht⟩) hS.2.2 dX11_symbolOf_136
                                · have hM := z_f c16 hM
                                  by_cases c17 : x0 = 19
                                  · have hM := z_t c17 hM
                                    refine lv_tableIn (tgt := 137) (off := 136) hx hb dX11_symbolOf_1 (by rw [c17]; decide) (by rw [c17]; decide) (by rw [c17]; decide +kernel) (by decide) ?_
                                    refine va_ldcS (tx := "!=") hx hb hown (hX.2.2.1 14 (RX11, 216, "!=") rfl) dX11_symbolOf_137 ?_
                                    have hM := hM
                                    subst hM
                                    exact W.aret (v := .ref (adK 14)) hx hb hr (Or.inl ⟨_, rfl⟩) (Or.inr ⟨_, rfl⟩) (fun t ht hW => ⟨⟨(), _, rfl, trivial, ⟨rfl, by rw [ht]; exact hP, va_K.moved hW.alike hK, hD⟩⟩, hS.F ht⟩) hS.2.2 dX11_symbolOf_139
                                  · have hM := z_f c17 hM
                                    by_cases c18 : x0 = 20
                                    · have hM := z_t c18 hM
                                      refine lv_tableIn (tgt := 140) (off := 139) hx hb dX11_symbolOf_1 (by rw [c18]; decide) (by rw [c18]; decide) (by rw [c18]; decide +kernel) (by decide) ?_
                                      refine va_ldcS (tx := ":") hx hb hown (hX.2.2.1 15 (RX11, 218, ":") rfl) dX11_symbolOf_140 ?_
                                      have hM := hM
                                      subst hM
                                      exact W.aret (v := .ref (adK 15)) hx hb hr (Or.inl ⟨_, rfl⟩) (Or.inr ⟨_, rfl⟩) (fun t ht hW => ⟨⟨(), _, rfl, trivial, ⟨rfl, by rw [ht]; exact hP, va_K.moved hW.alike hK, hD⟩⟩, hS.F ht⟩) hS.2.2 dX11_symbolOf_142
                                    · have hM := z_f c18 hM
                                      by_cases c19 : x0 = 21
                                      · have hM := z_t c19 hM
                                        refine lv_tableIn (tgt := 143) (off := 142) hx hb dX11_symbolOf_1 (by rw [c19]; decide) (by rw [c19]; decide) (by rw [c19]; decide +kernel) (by decide) ?_
                                        refine va_ldcS (tx := "..") hx hb hown (hX.2.2.1 16 (RX11, 220, "..") rfl) dX11_symbolOf_143 ?_
                                        have hM := hM
                                        subst hM
                                        exact W.aret (v := .ref (adK 16)) hx hb hr (Or.inl ⟨_, rfl⟩) (Or.inr ⟨_, rfl⟩) (fun t ht hW => ⟨⟨(), _, rfl, trivial, ⟨rfl, by rw [ht]; exact hP, va_K.moved hW.alike hK, hD⟩⟩, hS.F ht⟩) hS.2.2 dX11_symbolOf_145
                                      · have hM := z_f c19 hM
                                        refine lv_tableOut (tgt := 146) hx hb dX11_symbolOf_1 (z_out (lo := 3) 19 (fun k hk => ?_)) (by decide) ?_
                                        · match k, hk with
                                          | 0, _ => exact c1
                                          | 1, _ => exact c2
                                          | 2, _ => exact c3
                                          | 3, _ => exact c4
                                          | 4, _ => exact c5
                                          | 5, _ => exact c6
                                          | 6, _ => exact c7
                                          | 7, _ => exact c8
                                          | 8, _ => exact c9
                                          | 9, _ => exact c10
                                          | 10, _ => exact c11
                                          | 11, _ => exact c12
                                          | 12, _ => exact c13
                                          | 13, _ => exact c14
                                          | 14, _ => exact c15
                                          | 15, _ => exact c16
                                          | 16, _ => exact c17
                                          | 17, _ => exact c18
                                          | 18, _ => exact c19
                                          | k + 19, hk => omega
                                        · refine va_ldcS (tx := "") hx hb hown (hX.2.2.1 17 (RX11, 222, "") rfl) dX11_symbolOf_146 ?_
                                          have hM := hM
                                          subst hM
                                          exact W.aret (v := .ref (adK 17)) hx hb hr (Or.inl ⟨_, rfl⟩) (Or.inr ⟨_, rfl⟩) (fun t ht hW => ⟨⟨(), _, rfl, trivial, ⟨rfl, by rw [ht]; exact hP, va_K.moved hW.alike hK, hD⟩⟩, hS.F ht⟩) hS.2.2 dX11_symbolOf_148
def fn_Parser_wordOf (x0 : Int32) : Nat := (if x0 = 7 then 18 else (if x0 = 8 then 19 else (if x0 = 9 then 20 else (if x0 = 10 then 21 else (if x0 = 11 then 22 else (if x0 = 12 then 23 else (if x0 = 13 then 17 else (if x0 = 14 then 24 else (if x0 = 15 then 25 else (if x0 = 16 then 26 else (if x0 = 17 then 27 else (if x0 = 18 then 28 else (if x0 = 19 then 29 else (if x0 = 20 then 30 else (if x0 = 21 then 22 else 17)))))))))))))))
set_option maxHeartbeats 40000000 in
set_option maxRecDepth 100000 in
theorem ct_Parser_wordOf (l : Launch) (D : va_G) (cI cJ cC : ClassId) (adK adV : Nat → Nat) (sz : Nat) (x0 : Int32) : Met l yX11_wordOf wsX11_wordOf ({ frames := 0, cells := 0, slots := 0, locals := 0 } : Room) (zP D cI cJ cC adK adV [.int x0] sz []) (zQr D cI cJ cC (adK (fn_Parser_wordOf x0)) [] (va_A [] sz)) 0 0 (va_A [] sz) := by
  obtain ⟨rs, hM⟩ : ∃ rs, fn_Parser_wordOf x0 = rs := ⟨_, rfl⟩
  rw [hM]
  refine Met.ofW (cc := cX11_wordOf) (maxL := 1) (ret := (some (.object "java/lang/String"))) (by decide) rfl ?_
  intro p e s m args below meth c s₁ B hml hv0
  obtain ⟨hargs, hsz, hP, hK, hD0, hX⟩ := hv0
  have hx := B.exec
  have hb := B.bytes
  have hr := B.returns
  have hts := atoms_spec (ws := wsX11_wordOf) B.pre
  have hown : s.vm.findClass RX11 = some m.cls := findClass_of_methodNamed B.named
  have hlocks := B.notSynchronized
  subst hsz
  have hD := hD0.self (sz := s.heap.size)
  generalize hAe : va_A [] s.heap.size = A at hD hX ⊢
  have hA : ∀ q : Nat, s.heap.size ≤ q → A q := fun q h => by rw [← hAe]; exact Or.inr h
  have hS : va_S A s.heap s.heap [] := va_S.rf
  have hl := lv_entry ([.int x0]) (n := 1) (Nat.le_of_ble_eq_true rfl)
  rw [hargs, lg_entry_eq, ← hargs]
  generalize (lg_sl ([.int x0]) ++ List.replicate (1 - (lg_sl ([.int x0])).length) Slot.unset).toArray = ls at hl ⊢
  have hl : lv_has ls 1 [(0, .int x0)] := hl
  refine lv_iload_n hx hb dX11_wordOf_0 rfl (lv_at hl 0 rfl) ?_
  by_cases c1 : x0 = 7
  · have hM := z_t c1 hM
    refine lv_tableIn (tgt := 76) (off := 75) hx hb dX11_wordOf_1 (by rw [c1]; decide) (by rw [c1]; decide) (by rw [c1]; decide +kernel) (by decide) ?_
    refine va_ldcS (tx := "plus") hx hb hown (hX.2.2.1 18 (RX11, 224, "plus") rfl) dX11_wordOf_76 ?_
    have hM := hM
    subst hM
    exact W.aret (v := .ref (adK 18)) hx hb hr (Or.inl ⟨_, rfl⟩) (Or.inr ⟨_, rfl⟩) (fun t ht hW => ⟨⟨(), _, rfl, trivial, ⟨rfl, by rw [ht]; exact hP, va_K.moved hW.alike hK, hD⟩⟩, hS.F ht⟩) hS.2.2 dX11_wordOf_78
  · have hM := z_f c1 hM
    by_cases c2 : x0 = 8
    · have hM := z_t c2 hM
      refine lv_tableIn (tgt := 79) (off := 78) hx hb dX11_wordOf_1 (by rw [c2]; decide) (by rw [c2]; decide) (by rw [c2]; decide +kernel) (by decide) ?_
      refine va_ldcS (tx := "minus") hx hb hown (hX.2.2.1 19 (RX11, 226, "minus") rfl) dX11_wordOf_79 ?_
      have hM := hM
      subst hM
      exact W.aret (v := .ref (adK 19)) hx hb hr (Or.inl ⟨_, rfl⟩) (Or.inr ⟨_, rfl⟩) (fun t ht hW => ⟨⟨(), _, rfl, trivial, ⟨rfl, by rw [ht]; exact hP, va_K.moved hW.alike hK, hD⟩⟩, hS.F ht⟩) hS.2.2 dX11_wordOf_81
    · have hM := z_f c2 hM
      by_cases c3 : x0 = 9
      · have hM := z_t c3 hM
        refine lv_tableIn (tgt := 82) (off := 81) hx hb dX11_wordOf_1 (by rw [c3]; decide) (by rw [c3]; decide) (by rw [c3]; decide +kernel) (by decide) ?_
        refine va_ldcS (tx := "times") hx hb hown (hX.2.2.1 20 (RX11, 228, "times") rfl) dX11_wordOf_82 ?_
        have hM := hM
        subst hM
        exact W.aret (v := .ref (adK 20)) hx hb hr (Or.inl ⟨_, rfl⟩) (Or.inr ⟨_, rfl⟩) (fun t ht hW => ⟨⟨(), _, rfl, trivial, ⟨rfl, by rw [ht]; exact hP, va_K.moved hW.alike hK, hD⟩⟩, hS.F ht⟩) hS.2.2 dX11_wordOf_84
      · have hM := z_f c3 hM
        by_cases c4 : x0 = 10
        · have hM := z_t c4 hM
          refine lv_tableIn (tgt := 85) (off := 84) hx hb dX11_wordOf_1 (by rw [c4]; decide) (by rw [c4]; decide) (by rw [c4]; decide +kernel) (by decide) ?_
          refine va_ldcS (tx := "over") hx hb hown (hX.2.2.1 21 (RX11, 230, "over") rfl) dX11_wordOf_85 ?_
          have hM := hM
          subst hM
          exact W.aret (v := .ref (adK 21)) hx hb hr (Or.inl ⟨_, rfl⟩) (Or.inr ⟨_, rfl⟩) (fun t ht hW => ⟨⟨(), _, rfl, trivial, ⟨rfl, by rw [ht]; exact hP, va_K.moved hW.alike hK, hD⟩⟩, hS.F ht⟩) hS.2.2 dX11_wordOf_87
        · have hM := z_f c4 hM
          by_cases c5 : x0 = 11
          · have hM := z_t c5 hM
            refine lv_tableIn (tgt := 88) (off := 87) hx hb dX11_wordOf_1 (by rw [c5]; decide) (by rw [c5]; decide) (by rw [c5]; decide +kernel) (by decide) ?_
            refine va_ldcS (tx := "to") hx hb hown (hX.2.2.1 22 (RX11, 232, "to") rfl) dX11_wordOf_88 ?_
            have hM := hM
            subst hM
            exact W.aret (v := .ref (adK 22)) hx hb hr (Or.inl ⟨_, rfl⟩) (Or.inr ⟨_, rfl⟩) (fun t ht hW => ⟨⟨(), _, rfl, trivial, ⟨rfl, by rw [ht]; exact hP, va_K.moved hW.alike hK, hD⟩⟩, hS.F ht⟩) hS.2.2 dX11_wordOf_90
          · have hM := z_f c5 hM
            by_cases c6 : x0 = 12
            · have hM := z_t c6 hM
              refine lv_tableIn (tgt := 91) (off := 90) hx hb dX11_wordOf_1 (by rw [c6]; decide) (by rw [c6]; decide) (by rw [c6]; decide +kernel) (by decide) ?_
              refine va_ldcS (tx := "by") hx hb hown (hX.2.2.1 23 (RX11, 234, "by") rfl) dX11_wordOf_91 ?_
              have hM := hM
              subst hM
              exact W.aret (v := .ref (adK 23)) hx hb hr (Or.inl ⟨_, rfl⟩) (Or.inr ⟨_, rfl⟩) (fun t ht hW => ⟨⟨(), _, rfl, trivial, ⟨rfl, by rw [ht]; exact hP, va_K.moved hW.alike hK, hD⟩⟩, hS.F ht⟩) hS.2.2 dX11_wordOf_93
            · have hM := z_f c6 hM
              by_cases c7 : x0 = 13
              · have hM := z_t c7 hM
                refine lv_tableIn (tgt := 118) (off := 117) hx hb dX11_wordOf_1 (by rw [c7]; decide) (by rw [c7]; decide) (by rw [c7]; decide +kernel) (by decide) ?_
                refine va_ldcS (tx := "") hx hb hown (hX.2.2.1 17 (RX11, 222, "") rfl) dX11_wordOf_118 ?_
                have hM := hM
                subst hM
                exact W.aret (v := .ref (adK 17)) hx hb hr (Or.inl ⟨_, rfl⟩) (Or.inr ⟨_, rfl⟩) (fun t ht hW => ⟨⟨(), _, rfl, trivial, ⟨rfl, by rw [ht]; exact hP, va_K.moved hW.alike hK, hD⟩⟩, hS.F ht⟩) hS.2.2 dX11_wordOf_120
              · have hM := z_f c7 hM
                by_cases c8 : x0 = 14
                · have hM := z_t c8 hM
                  refine lv_tableIn (tgt := 94) (off := 93) hx hb dX11_wordOf_1 (by rw [c8]; decide) (by rw [c8]; decide) (by rw [c8]; decide +kernel) (by decide) ?_
                  refine va_ldcS (tx := "equals") hx hb hown (hX.2.2.1 24 (RX11, 236, "equals") rfl) dX11_wordOf_94 ?_
                  have hM := hM
                  subst hM
                  exact W.aret (v := .ref (adK 24)) hx hb hr (Or.inl ⟨_, rfl⟩) (Or.inr ⟨_, rfl⟩) (fun t ht hW => ⟨⟨(), _, rfl, trivial, ⟨rfl, by rw [ht]; exact hP, va_K.moved hW.alike hK, hD⟩⟩, hS.F ht⟩) hS.2.2 dX11_wordOf_96
                · have hM := z_f c8 hM
                  by_cases c9 : x0 = 15
                  · have hM := z_t c9 hM
                    refine lv_tableIn (tgt := 97) (off := 96) hx hb dX11_wordOf_1 (by rw [c9]; decide) (by rw [c9]; decide) (by rw [c9]; decide +kernel) (by decide) ?_
                    refine va_ldcS (tx := "below") hx hb hown (hX.2.2.1 25 (RX11, 238, "below") rfl) dX11_wordOf_97 ?_
                    have hM := hM
                    subst hM
                    exact W.aret (v := .ref (adK 25)) hx hb hr (Or.inl ⟨_, rfl⟩) (Or.inr ⟨_, rfl⟩) (fun t ht hW => ⟨⟨(), _, rfl, trivial, ⟨rfl, by rw [ht]; exact hP, va_K.moved hW.alike hK, hD⟩⟩, hS.F ht⟩) hS.2.2 dX11_wordOf_99
                  · have hM := z_f c9 hM
                    by_cases c10 : x0 = 16
                    · have hM := z_t c10 hM
                      refine lv_tableIn (tgt := 100) (off := 99) hx hb dX11_wordOf_1 (by rw [c10]; decide) (by rw [c10]; decide) (by rw [c10]; decide +kernel) (by decide) ?_
                      refine va_ldcS (tx := "above") hx hb hown (hX.2.2.1 26 (RX11, 240, "above") rfl) dX11_wordOf_100 ?_
                      have hM := hM
                      subst hM
                      exact W.aret (v := .ref (adK 26)) hx hb hr (Or.inl ⟨_, rfl⟩) (Or.inr ⟨_, rfl⟩) (fun t ht hW => ⟨⟨(), _, rfl, trivial, ⟨rfl, by rw [ht]; exact hP, va_K.moved hW.alike hK, hD⟩⟩, hS.F ht⟩) hS.2.2 dX11_wordOf_102
                    · have hM := z_f c10 hM
                      by_cases c11 : x0 = 17
                      · have hM := z_t c11 hM
                        refine lv_tableIn (tgt := 103) (off := 102) hx hb dX11_wordOf_1 (by rw [c11]; decide) (by rw [c11]; decide) (by rw [c11]; decide +kernel) (by decide) ?_
                        refine va_ldcS (tx := "upto") hx hb hown (hX.2.2.1 27 (RX11, 242, "upto") rfl) dX11_wordOf_103 ?_
                        have hM := hM
                        subst hM
                        exact W.aret (v := .ref (adK 27)) hx hb hr (Or.inl ⟨_, rfl⟩) (Or.inr ⟨_, rfl⟩) (fun t ht hW => ⟨⟨(), _, rfl, trivial, ⟨rfl, by rw [ht]; exact hP, va_K.moved hW.alike hK, hD⟩⟩, hS.F ht⟩) hS.2.2 dX11_wordOf_105
                      · have hM := z_f c11 hM
                        by_cases c12 : x0 = 18
                        · have hM := z_t c12 hM
                          refine lv_tableIn (tgt := 106) (off := 105) hx hb dX11_wordOf_1 (by rw [c12]; decide) (by rw [c12]; decide) (by rw [c12]; decide +kernel) (by decide) ?_
                          refine va_ldcS (tx := "downto") hx hb hown (hX.2.2.1 28 (RX11, 244, "downto") rfl) dX11_wordOf_106 ?_
                          have hM := hM
                          subst hM
                          exact W.aret (v := .ref (adK 28)) hx hb hr (Or.inl ⟨_, rfl⟩) (Or.inr ⟨_, rfl⟩) (fun t ht hW => ⟨⟨(), _, rfl, trivial, ⟨rfl, by rw [ht]; exact hP, va_K.moved hW.alike hK, hD⟩⟩, hS.F ht⟩) hS.2.2 dX11_wordOf_108
                        · have hM := z_f c12 hM
                          by_cases c13 : x0 = 19
                          · have hM := z_t c13 hM
                            refine lv_tableIn (tgt := 109) (off := 108) hx hb dX11_wordOf_1 (by rw [c13]; decide) (by rw [c13]; decide) (by rw [c13]; decide +kernel) (by decide) ?_
                            refine va_ldcS (tx := "unlike") hx hb hown (hX.2.2.1 29 (RX11, 246, "unlike") rfl) dX11_wordOf_109 ?_
                            have hM := hM
                            subst hM
                            exact W.aret (v := .ref (adK 29)) hx hb hr (Or.inl ⟨_, rfl⟩) (Or.inr ⟨_, rfl⟩) (fun t ht hW => ⟨⟨(), _, rfl, trivial, ⟨rfl, by rw [ht]; exact hP, va_K.moved hW.alike hK, hD⟩⟩, hS.F ht⟩) hS.2.2 dX11_wordOf_111
                          · have hM := z_f c13 hM
                            by_cases c14 : x0 = 20
                            · have hM := z_t c14 hM
                              refine lv_tableIn (tgt := 112) (off := 111) hx hb dX11_wordOf_1 (by rw [c14]; decide) (by rw [c14]; decide) (by rw [c14]; decide +kernel) (by decide) ?_
                              refine va_ldcS (tx := "from") hx hb hown (hX.2.2.1 30 (RX11, 248, "from") rfl) dX11_wordOf_112 ?_
                              have hM := hM
                              subst hM
                              exact W.aret (v := .ref (adK 30)) hx hb hr (Or.inl ⟨_, rfl⟩) (Or.inr ⟨_, rfl⟩) (fun t ht hW => ⟨⟨(), _, rfl, trivial, ⟨rfl, by rw [ht]; exact hP, va_K.moved hW.alike hK, hD⟩⟩, hS.F ht⟩) hS.2.2 dX11_wordOf_114
                            · have hM := z_f c14 hM
                              by_cases c15 : x0 = 21
                              · have hM := z_t c15 hM
                                refine lv_tableIn (tgt := 115) (off := 114) hx hb dX11_wordOf_1 (by rw [c15]; decide) (by rw [c15]; decide) (by rw [c15]; decide +kernel) (by decide) ?_
                                refine va_ldcS (tx := "to") hx hb hown (hX.2.2.1 22 (RX11, 232, "to") rfl) dX11_wordOf_115 ?_
                                have hM := hM
                                subst hM
                                exact W.aret (v := .ref (adK 22)) hx hb hr (Or.inl ⟨_, rfl⟩) (Or.inr ⟨_, rfl⟩) (fun t ht hW => ⟨⟨(), _, rfl, trivial, ⟨rfl, by rw [ht]; exact hP, va_K.moved hW.alike hK, hD⟩⟩, hS.F ht⟩) hS.2.2 dX11_wordOf_117
                              · have hM := z_f c15 hM
                                refine lv_tableOut (tgt := 118) hx hb dX11_wordOf_1 (z_out (lo := 7) 15 (fun k hk => ?_)) (by decide) ?_
                                · match k, hk with
                                  | 0, _ => exact c1
                                  | 1, _ => exact c2
                                  | 2, _ => exact c3
                                  | 3, _ => exact c4
                                  | 4, _ => exact c5
                                  | 5, _ => exact c6
                                  | 6, _ => exact c7
                                  | 7, _ => exact c8
                                  | 8, _ => exact c9
                                  | 9, _ => exact c10
                                  | 10, _ => exact c11
                                  | 11, _ => exact c12
                                  | 12, _ => exact c13
                                  | 13, _ => exact c14
                                  | 14, _ => exact c15
                                  | k + 15, hk => omega
                                · refine va_ldcS (tx := "") hx hb hown (hX.2.2.1 17 (RX11, 222, "") rfl) dX11_wordOf_118 ?_
                                  have hM := hM
                                  subst hM
                                  exact W.aret (v := .ref (adK 17)) hx hb hr (Or.inl ⟨_, rfl⟩) (Or.inr ⟨_, rfl⟩) (fun t ht hW => ⟨⟨(), _, rfl, trivial, ⟨rfl, by rw [ht]; exact hP, va_K.moved hW.alike hK, hD⟩⟩, hS.F ht⟩) hS.2.2 dX11_wordOf_120
