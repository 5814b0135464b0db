theorem dL_184 : decode code 184 = .ok (.aload_n 1, 1) := by decide +kernel
theorem dL_185 : decode code 185 = .ok (.aload_n 0, 1) := by decide +kernel
theorem dL_186 : decode code 186 = .ok (.iload_n 3, 1) := by decide +kernel
theorem dL_187 : decode code 187 = .ok (.iconst 1, 1) := by decide +kernel
theorem dL_188 : decode code 188 = .ok (.iadd, 1) := by decide +kernel
theorem dL_189 : decode code 189 = .ok (.iaload, 1) := by decide +kernel
theorem dL_190 : decode code 190 = .ok (.invokevirtual 13, 3) := by decide +kernel
theorem dL_193 : decode code 193 = .ok (.aload_n 2, 1) := by decide +kernel
theorem dL_194 : decode code 194 = .ok (.aload_n 0, 1) := by decide +kernel
theorem dL_195 : decode code 195 = .ok (.iload_n 3, 1) := by decide +kernel
theorem dL_196 : decode code 196 = .ok (.iconst 1, 1) := by decide +kernel
theorem dL_197 : decode code 197 = .ok (.iadd, 1) := by decide +kernel
theorem dL_198 : decode code 198 = .ok (.iaload, 1) := by decide +kernel
theorem dL_199 : decode code 199 = .ok (.invokevirtual 17, 3) := by decide +kernel
theorem dL_202 : decode code 202 = .ok (.if_icmp .eq 954, 3) := by decide +kernel
set_option maxRecDepth 8000 in
set_option maxHeartbeats 4000000 in
theorem lw_c0 {l : Launch} {g : qGm} {X : qCt} {M : qMem} {b L : Nat} {xs : Nat → Int32} {i : Int} {sd : sSD} (C : qCx l g X code RL 9) (D : lCx X b L xs) (hi : 0 ≤ i ∧ i + 5 ≤ (L : Int)) (hL : L ≤ 320) (h : qInv M sd) (k : ∀ M' sd', qInv M' sd' → qV l g X M' 1156 (lwL g b i) []) : qV l g X M 184 (lwL g b i) [] := by
  have hI := h
  obtain ⟨hT, hSt, hSn, hBk⟩ := h
  have hs := hSt.1
  have hxS := hSt.2.1
  have hmS := hSt.2.2.1
  have hZ := hSt.2.2.2.1
  have hI0 := hSt.2.2.2.2.1
  have hI1 := hSt.2.2.2.2.2
  have hv := hSt.v
  have hH := hSt.h
  have hk := hSt.k
  refine q_aloadn C dL_184 rfl ?_
  refine q_aloadn C dL_185 rfl ?_
  refine q_iloadn C dL_186 rfl ?_
  refine q_iconst C dL_187 ?_
  refine q_iadd C dL_188 ?_
  refine q_sld C D (by omega) (by omega) hL dL_189 ?_
  obtain ⟨e0, hq⟩ := qInv_feed (x := (lSc xs (i + 1))) hI
  refine cv_RL_13 C (by decide) (m_X11_feed l g M (by rw [hT.1]; exact hT.2.1) (lSc_in _ _)) dL_190 (Nat.le_of_ble_eq_true rfl) (fun r1 => ?_)
  refine q_aloadn C dL_193 rfl ?_
  refine q_aloadn C dL_194 rfl ?_
  refine q_iloadn C dL_195 rfl ?_
  refine q_iconst C dL_196 ?_
  refine q_iadd C dL_197 ?_
  refine q_sld C D (by omega) (by omega) hL dL_198 ?_
  refine cv_RL_17 C (by decide) (m_X12_feed l g _ (by rw [e0]; exact hT.2.1) (lSc_in _ _)) dL_199 (Nat.le_of_ble_eq_true rfl) (fun r2 => ?_)
  exact q_icmp_eq C 1156 dL_202 (by decide) (r1) (r2) (fun _ => k _ _ (hq)) (fun hne => absurd (by rw [e0, hT.1]) hne)
theorem dL_207 : decode code 207 = .ok (.aload_n 1, 1) := by decide +kernel
theorem dL_208 : decode code 208 = .ok (.invokevirtual 18, 3) := by decide +kernel
theorem dL_211 : decode code 211 = .ok (.aload_n 2, 1) := by decide +kernel
theorem dL_212 : decode code 212 = .ok (.invokevirtual 22, 3) := by decide +kernel
theorem dL_215 : decode code 215 = .ok (.if_icmp .eq 941, 3) := by decide +kernel
set_option maxRecDepth 8000 in
set_option maxHeartbeats 4000000 in
theorem lw_c1 {l : Launch} {g : qGm} {X : qCt} {M : qMem} {b L : Nat} {xs : Nat → Int32} {i : Int} {sd : sSD} (C : qCx l g X code RL 9) (D : lCx X b L xs) (hi : 0 ≤ i ∧ i + 5 ≤ (L : Int)) (hL : L ≤ 320) (h : qInv M sd) (k : ∀ M' sd', qInv M' sd' → qV l g X M' 1156 (lwL g b i) []) : qV l g X M 207 (lwL g b i) [] := by
  have hI := h
  obtain ⟨hT, hSt, hSn, hBk⟩ := h
  have hs := hSt.1
  have hxS := hSt.2.1
  have hmS := hSt.2.2.1
  have hZ := hSt.2.2.2.1
  have hI0 := hSt.2.2.2.2.1
  have hI1 := hSt.2.2.2.2.2
  have hv := hSt.v
  have hH := hSt.h
  have hk := hSt.k
  refine q_aloadn C dL_207 rfl ?_
  refine cw_RL_18 C (by decide) (m_X11_season l g M hZ (by rw [hT.1]; exact hT.2.1) (fun k a b => by rw [hT.2.2.1]; exact hT.2.2.2.1 k a (by rw [← hT.1]; exact b))) dL_208 (Nat.le_of_ble_eq_true rfl) (fun r1 N hz1 hp1 => ?_)
  have hx : cSea M (zM M) r1 N := hp1
  have ef := qInv_sea1 hx
  obtain ⟨z, hr⟩ : ∃ z, r1 = some z := by
    by_cases c : (pRes (M 2 0) (M 1 0 2)).1 = 0
    · exact ⟨_, (hx.2.1 c).1⟩
    · exact ⟨_, (hx.1 c).1⟩
  subst hr
  show qV l g X _ _ _ (qI _ :: [])
  refine q_aloadn C dL_211 rfl ?_
  refine cw_RL_22 C (by decide) (m_X12_season l g N (t := M 41 0) (L := M 35 0 0) (a := N 35 0 2) ⟨ef 41 0 (by decide), by rw [ef 35 0 (by decide)], rfl⟩ hT.2.1 hT.2.2.2.1) dL_212 (Nat.le_of_ble_eq_true rfl) (fun r2 K hz2 hp2 => ?_)
  obtain ⟨he, sd2, hq⟩ := qInv_season hI hx hp2
  subst he
  show qV l g X _ _ _ (qI _ :: qI _ :: [])
  exact q_icmp_eq C 1156 dL_215 (by decide) (hz1 _ rfl) (hz1 _ rfl) (fun _ => k _ _ (hq)) (fun hne => absurd (rfl) hne)
theorem dL_220 : decode code 220 = .ok (.aload_n 1, 1) := by decide +kernel
theorem dL_221 : decode code 221 = .ok (.invokevirtual 23, 3) := by decide +kernel
theorem dL_224 : decode code 224 = .ok (.aload_n 2, 1) := by decide +kernel
theorem dL_225 : decode code 225 = .ok (.invokevirtual 26, 3) := by decide +kernel
theorem dL_228 : decode code 228 = .ok (.if_icmp .eq 928, 3) := by decide +kernel
set_option maxRecDepth 8000 in
set_option maxHeartbeats 4000000 in
theorem lw_c2 {l : Launch} {g : qGm} {X : qCt} {M : qMem} {b L : Nat} {xs : Nat → Int32} {i : Int} {sd : sSD} (C : qCx l g X code RL 9) (D : lCx X b L xs) (hi : 0 ≤ i ∧ i + 5 ≤ (L : Int)) (hL : L ≤ 320) (h : qInv M sd) (k : ∀ M' sd', qInv M' sd' → qV l g X M' 1156 (lwL g b i) []) : qV l g X M 220 (lwL g b i) [] := by
  have hI := h
  obtain ⟨hT, hSt, hSn, hBk⟩ := h
  have hs := hSt.1
  have hxS := hSt.2.1
  have hmS := hSt.2.2.1
  have hZ := hSt.2.2.2.1
  have hI0 := hSt.2.2.2.2.1
  have hI1 := hSt.2.2.2.2.2
  have hv := hSt.v
  have hH := hSt.h
  have hk := hSt.k
  refine q_aloadn C dL_220 rfl ?_
  refine cv_RL_23 C (by decide) (m_X11_fault l g M  ) dL_221 (Nat.le_of_ble_eq_true rfl) (fun r1 => ?_)
  refine q_aloadn C dL_224 rfl ?_
  refine cv_RL_26 C (by decide) (m_X12_fault l g M  ) dL_225 (Nat.le_of_ble_eq_true rfl) (fun r2 => ?_)
  exact q_icmp_eq C 1156 dL_228 (by decide) (r1) (r2) (fun _ => k _ _ (hI)) (fun hne => absurd (hT.2.2.2.2) hne)
theorem dL_233 : decode code 233 = .ok (.aload_n 1, 1) := by decide +kernel
theorem dL_234 : decode code 234 = .ok (.aload_n 0, 1) := by decide +kernel
theorem dL_235 : decode code 235 = .ok (.iload_n 3, 1) := by decide +kernel
theorem dL_236 : decode code 236 = .ok (.iconst 1, 1) := by decide +kernel
theorem dL_237 : decode code 237 = .ok (.iadd, 1) := by decide +kernel
theorem dL_238 : decode code 238 = .ok (.iaload, 1) := by decide +kernel
theorem dL_239 : decode code 239 = .ok (.invokevirtual 27, 3) := by decide +kernel
theorem dL_242 : decode code 242 = .ok (.aload_n 2, 1) := by decide +kernel
theorem dL_243 : decode code 243 = .ok (.aload_n 0, 1) := by decide +kernel
theorem dL_244 : decode code 244 = .ok (.iload_n 3, 1) := by decide +kernel
theorem dL_245 : decode code 245 = .ok (.iconst 1, 1) := by decide +kernel
theorem dL_246 : decode code 246 = .ok (.iadd, 1) := by decide +kernel
theorem dL_247 : decode code 247 = .ok (.iaload, 1) := by decide +kernel
theorem dL_248 : decode code 248 = .ok (.invokevirtual 30, 3) := by decide +kernel
theorem dL_251 : decode code 251 = .ok (.if_icmp .eq 905, 3) := by decide +kernel
set_option maxRecDepth 8000 in
set_option maxHeartbeats 4000000 in
theorem lw_c3 {l : Launch} {g : qGm} {X : qCt} {M : qMem} {b L : Nat} {xs : Nat → Int32} {i : Int} {sd : sSD} (C : qCx l g X code RL 9) (D : lCx X b L xs) (hi : 0 ≤ i ∧ i + 5 ≤ (L : Int)) (hL : L ≤ 320) (h : qInv M sd) (k : ∀ M' sd', qInv M' sd' → qV l g X M' 1156 (lwL g b i) []) : qV l g X M 233 (lwL g b i) [] := by
  have hI := h
  obtain ⟨hT, hSt, hSn, hBk⟩ := h
  have hs := hSt.1
  have hxS := hSt.2.1
  have hmS := hSt.2.2.1
  have hZ := hSt.2.2.2.1
  have hI0 := hSt.2.2.2.2.1
  have hI1 := hSt.2.2.2.2.2
  have hv := hSt.v
  have hH := hSt.h
  have hk := hSt.k
  refine q_aloadn C dL_233 rfl ?_
  refine q_aloadn C dL_234 rfl ?_
  refine q_iloadn C dL_235 rfl ?_
  refine q_iconst C dL_236 ?_
  refine q_iadd C dL_237 ?_
  refine q_sld C D (by omega) (by omega) hL dL_238 ?_
  refine cv_RL_27 C (by decide) (m_X11_told l g M hs hxS hv hH (lSc_in _ _) (by rw [hT.1]; exact hT.2.1)) dL_239 (Nat.le_of_ble_eq_true rfl) (fun r1 => ?_)
  refine q_aloadn C dL_242 rfl ?_
  refine q_aloadn C dL_243 rfl ?_
  refine q_iloadn C dL_244 rfl ?_
  refine q_iconst C dL_245 ?_
  refine q_iadd C dL_246 ?_
  refine q_sld C D (by omega) (by omega) hL dL_247 ?_
  refine cv_RL_30 C (by decide) (m_X12_told l g M hs hmS hv (lSc_in _ _)) dL_248 (Nat.le_of_ble_eq_true rfl) (fun r2 => ?_)
  exact q_icmp_eq C 1156 dL_251 (by decide) (r1) (r2) (fun _ => k _ _ (hI)) (fun hne => absurd (by rw [hT.1, hSn.1, hBk.1, hSt.u]) hne)
theorem dL_256 : decode code 256 = .ok (.aload_n 1, 1) := by decide +kernel
theorem dL_257 : decode code 257 = .ok (.aload_n 0, 1) := by decide +kernel
theorem dL_258 : decode code 258 = .ok (.iload_n 3, 1) := by decide +kernel
theorem dL_259 : decode code 259 = .ok (.iconst 1, 1) := by decide +kernel
theorem dL_260 : decode code 260 = .ok (.iadd, 1) := by decide +kernel
theorem dL_261 : decode code 261 = .ok (.iaload, 1) := by decide +kernel
theorem dL_262 : decode code 262 = .ok (.aload_n 0, 1) := by decide +kernel
theorem dL_263 : decode code 263 = .ok (.iload_n 3, 1) := by decide +kernel
theorem dL_264 : decode code 264 = .ok (.iconst 2, 1) := by decide +kernel
theorem dL_265 : decode code 265 = .ok (.iadd, 1) := by decide +kernel
theorem dL_266 : decode code 266 = .ok (.iaload, 1) := by decide +kernel
theorem dL_267 : decode code 267 = .ok (.invokevirtual 31, 3) := by decide +kernel
theorem dL_270 : decode code 270 = .ok (.aload_n 2, 1) := by decide +kernel
theorem dL_271 : decode code 271 = .ok (.aload_n 0, 1) := by decide +kernel
theorem dL_272 : decode code 272 = .ok (.iload_n 3, 1) := by decide +kernel
theorem dL_273 : decode code 273 = .ok (.iconst 1, 1) := by decide +kernel
theorem dL_274 : decode code 274 = .ok (.iadd, 1) := by decide +kernel
theorem dL_275 : decode code 275 = .ok (.iaload, 1) := by decide +kernel
theorem dL_276 : decode code 276 = .ok (.aload_n 0, 1) := by decide +kernel
theorem dL_277 : decode code 277 = .ok (.iload_n 3, 1) := by decide +kernel
theorem dL_278 : decode code 278 = .ok (.iconst 2, 1) := by decide +kernel
theorem dL_279 : decode code 279 = .ok (.iadd, 1) := by decide +kernel
theorem dL_280 : decode code 280 = .ok (.iaload, 1) := by decide +kernel
theorem dL_281 : decode code 281 = .ok (.invokevirtual 35, 3) := by decide +kernel
theorem dL_284 : decode code 284 = .ok (.if_icmp .eq 872, 3) := by decide +kernel
set_option maxRecDepth 8000 in
set_option maxHeartbeats 4000000 in
theorem lw_c4 {l : Launch} {g : qGm} {X : qCt} {M : qMem} {b L : Nat} {xs : Nat → Int32} {i : Int} {sd : sSD} (C : qCx l g X code RL 9) (D : lCx X b L xs) (hi : 0 ≤ i ∧ i + 5 ≤ (L : Int)) (hL : L ≤ 320) (h : qInv M sd) (k : ∀ M' sd', qInv M' sd' → qV l g X M' 1156 (lwL g b i) []) : qV l g X M 256 (lwL g b i) [] := by
  have hI := h
  obtain ⟨hT, hSt, hSn, hBk⟩ := h
  have hs := hSt.1
  have hxS := hSt.2.1
  have hmS := hSt.2.2.1
  have hZ := hSt.2.2.2.1
  have hI0 := hSt.2.2.2.2.1
  have hI1 := hSt.2.2.2.2.2
  have hv := hSt.v
  have hH := hSt.h
  have hk := hSt.k
  refine q_aloadn C dL_256 rfl ?_
  refine q_aloadn C dL_257 rfl ?_
  refine q_iloadn C dL_258 rfl ?_
  refine q_iconst C dL_259 ?_
  refine q_iadd C dL_260 ?_
  refine q_sld C D (by omega) (by omega) hL dL_261 ?_
  refine q_aloadn C dL_262 rfl ?_
  refine q_iloadn C dL_263 rfl ?_
  refine q_iconst C dL_264 ?_
  refine q_iadd C dL_265 ?_
  refine q_sld C D (by omega) (by omega) hL dL_266 ?_
  refine cw_RL_31 C (by decide) (m_X11_comer l g M hs hxS hv hH (lSc_in _ _) (lSc_in _ _)) dL_267 (Nat.le_of_ble_eq_true rfl) (fun r1 N hz1 hp1 => ?_)
  obtain ⟨e1, hx⟩ := hp1
  subst e1
  have nS : mS N sd := mS_off (fun k _ _ => by rw [hx 35 (by omega)]) (fun j _ _ => by rw [hx j (by omega)]) hmS
  have e61 : N 61 = M 61 := hx 61 (by omega)
  show qV l g X _ _ _ (qI _ :: [])
  refine q_aloadn C dL_270 rfl ?_
  refine q_aloadn C dL_271 rfl ?_
  refine q_iloadn C dL_272 rfl ?_
  refine q_iconst C dL_273 ?_
  refine q_iadd C dL_274 ?_
  refine q_sld C D (by omega) (by omega) hL dL_275 ?_
  refine q_aloadn C dL_276 rfl ?_
  refine q_iloadn C dL_277 rfl ?_
  refine q_iconst C dL_278 ?_
  refine q_iadd C dL_279 ?_
  refine q_sld C D (by omega) (by omega) hL dL_280 ?_
  refine cw_RL_35 C (by decide) (m_X12_comer l g N hs nS (by rw [e61]; exact hv) (lSc_in _ _) (lSc_in _ _)) dL_281 (Nat.le_of_ble_eq_true rfl) (fun r2 K hz2 hp2 => ?_)
  obtain ⟨e2, hm⟩ := hp2
  rw [e61] at e2
  subst e2
  show qV l g X _ _ _ (qI _ :: qI _ :: [])
  exact q_icmp_eq C 1156 dL_284 (by decide) (hz1 _ rfl) (hz1 _ rfl) (fun _ => k _ _ (qInv_mt hI hx hm)) (fun hne => absurd (rfl) hne)
