/-! THE LAW: a case a call -/
section W1
variable {X : aX} {m : aMem} {A : aA} {Q : Option Value → aMem → Prop} {k : Nat}
theorem lw_nut (hX : X.1 ≤ 3072) (hk : k ≤ 1000) (h6 : 6 * k + 6 ≤ X.1) (hC : CI m A) (hM : MI m A) (hO : OK k A) (h : ∀ m' A', CI m' A' → MI m' A' → OK (k + 1) A' → gG X 0 790 [.ref 0, .ref 1, .ref 53, .int (nI (6 * k))] [] m' Q) : gG X 0 140 [.ref 0, .ref 1, .ref 53, .int (nI (6 * k))] [] m Q := by
  refine g_aload_n (pc' := 141) rfl rfl rfl ?_
  refine g_aload_n (pc' := 142) rfl rfl rfl ?_
  refine g_iload_n (pc' := 143) rfl rfl rfl ?_
  refine g_iconst (pc' := 144) (v := 1) rfl rfl (by decide) ?_
  refine g_iadd (pc' := 145) rfl rfl ?_
  refine g_sld (pc' := 146) rfl rfl (k := 6 * k + 1) (by omega) (by omega) (nI_add _ 1) ?_
  refine g_aload_n (pc' := 147) rfl rfl rfl ?_
  refine g_iload_n (pc' := 148) rfl rfl rfl ?_
  refine g_iconst (pc' := 149) (v := 2) rfl rfl (by decide) ?_
  refine g_iadd (pc' := 150) rfl rfl ?_
  refine g_sld (pc' := 151) rfl rfl (k := 6 * k + 2) (by omega) (by omega) (nI_add _ 2) ?_
  refine g_aload_n (pc' := 152) rfl rfl rfl ?_
  refine g_iload_n (pc' := 153) rfl rfl rfl ?_
  refine g_iconst (pc' := 154) (v := 3) rfl rfl (by decide) ?_
  refine g_iadd (pc' := 155) rfl rfl ?_
  refine g_sld (pc' := 156) rfl rfl (k := 6 * k + 3) (by omega) (by omega) (nI_add _ 3) ?_
  refine g_aload_n (pc' := 157) rfl rfl rfl ?_
  refine g_iload_n (pc' := 158) rfl rfl rfl ?_
  refine g_iconst (pc' := 159) (v := 4) rfl rfl (by decide) ?_
  refine g_iadd (pc' := 160) rfl rfl ?_
  refine g_sld (pc' := 161) rfl rfl (k := 6 * k + 4) (by omega) (by omega) (nI_add _ 4) ?_
  refine g_calli (pc' := 164) rfl rfl rfl rfl (Or.inr rfl) ?_
  refine c_nut hC  (fun m1 f1 hC1 => ?_)
  refine g_aload_n (pc' := 165) rfl rfl rfl ?_
  refine g_aload_n (pc' := 166) rfl rfl rfl ?_
  refine g_iload_n (pc' := 167) rfl rfl rfl ?_
  refine g_iconst (pc' := 168) (v := 1) rfl rfl (by decide) ?_
  refine g_iadd (pc' := 169) rfl rfl ?_
  refine g_sld (pc' := 170) rfl rfl (k := 6 * k + 1) (by omega) (by omega) (nI_add _ 1) ?_
  refine g_aload_n (pc' := 171) rfl rfl rfl ?_
  refine g_iload_n (pc' := 172) rfl rfl rfl ?_
  refine g_iconst (pc' := 173) (v := 2) rfl rfl (by decide) ?_
  refine g_iadd (pc' := 174) rfl rfl ?_
  refine g_sld (pc' := 175) rfl rfl (k := 6 * k + 2) (by omega) (by omega) (nI_add _ 2) ?_
  refine g_aload_n (pc' := 176) rfl rfl rfl ?_
  refine g_iload_n (pc' := 177) rfl rfl rfl ?_
  refine g_iconst (pc' := 178) (v := 3) rfl rfl (by decide) ?_
  refine g_iadd (pc' := 179) rfl rfl ?_
  refine g_sld (pc' := 180) rfl rfl (k := 6 * k + 3) (by omega) (by omega) (nI_add _ 3) ?_
  refine g_aload_n (pc' := 181) rfl rfl rfl ?_
  refine g_iload_n (pc' := 182) rfl rfl rfl ?_
  refine g_iconst (pc' := 183) (v := 4) rfl rfl (by decide) ?_
  refine g_iadd (pc' := 184) rfl rfl ?_
  refine g_sld (pc' := 185) rfl rfl (k := 6 * k + 4) (by omega) (by omega) (nI_add _ 4) ?_
  refine g_calli (pc' := 188) rfl rfl rfl rfl (Or.inr rfl) ?_
  refine d_nut (hM.fr f1)  (fun m2 f2 hM2 => ?_)
  refine g_icmp_eq (pc' := 191) (t := 790) rfl rfl rfl (fun c_188 => ?_) (fun c_188 => absurd rfl c_188)
  exact h m2 _ (hC1.fr f2 (by omega)) hM2 (ok_nut hO)
theorem lw_say (hX : X.1 ≤ 3072) (hk : k ≤ 1000) (h6 : 6 * k + 6 ≤ X.1) (hC : CI m A) (hM : MI m A) (hO : OK k A) (h : ∀ m' A', CI m' A' → MI m' A' → OK (k + 1) A' → gG X 0 790 [.ref 0, .ref 1, .ref 53, .int (nI (6 * k))] [] m' Q) : gG X 0 193 [.ref 0, .ref 1, .ref 53, .int (nI (6 * k))] [] m Q := by
  refine g_aload_n (pc' := 194) rfl rfl rfl ?_
  refine g_aload_n (pc' := 195) rfl rfl rfl ?_
  refine g_iload_n (pc' := 196) rfl rfl rfl ?_
  refine g_iconst (pc' := 197) (v := 1) rfl rfl (by decide) ?_
  refine g_iadd (pc' := 198) rfl rfl ?_
  refine g_sld (pc' := 199) rfl rfl (k := 6 * k + 1) (by omega) (by omega) (nI_add _ 1) ?_
  refine g_calli (pc' := 202) rfl rfl rfl rfl (Or.inr rfl) ?_
  refine c_say hC hO.2.1 (fun m1 f1 hC1 => ?_)
  refine g_aload_n (pc' := 203) rfl rfl rfl ?_
  refine g_aload_n (pc' := 204) rfl rfl rfl ?_
  refine g_iload_n (pc' := 205) rfl rfl rfl ?_
  refine g_iconst (pc' := 206) (v := 1) rfl rfl (by decide) ?_
  refine g_iadd (pc' := 207) rfl rfl ?_
  refine g_sld (pc' := 208) rfl rfl (k := 6 * k + 1) (by omega) (by omega) (nI_add _ 1) ?_
  refine g_calli (pc' := 211) rfl rfl rfl rfl (Or.inr rfl) ?_
  refine d_say (hM.fr f1) hO.2.1 (fun m2 f2 hM2 => ?_)
  refine g_icmp_eq (pc' := 214) (t := 790) rfl rfl rfl (fun c_211 => ?_) (fun c_211 => absurd rfl c_211)
  exact h m2 _ (hC1.fr f2 (by omega)) hM2 (ok_say hO)
theorem lw_wipe (hX : X.1 ≤ 3072) (hk : k ≤ 1000) (h6 : 6 * k + 6 ≤ X.1) (hC : CI m A) (hM : MI m A) (hO : OK k A) (h : ∀ m' A', CI m' A' → MI m' A' → OK (k + 1) A' → gG X 0 790 [.ref 0, .ref 1, .ref 53, .int (nI (6 * k))] [] m' Q) : gG X 0 216 [.ref 0, .ref 1, .ref 53, .int (nI (6 * k))] [] m Q := by
  refine g_aload_n (pc' := 217) rfl rfl rfl ?_
  refine g_calli (pc' := 220) rfl rfl rfl rfl (Or.inr rfl) ?_
  refine c_wipe hC  (fun m1 f1 hC1 => ?_)
  refine g_aload_n (pc' := 221) rfl rfl rfl ?_
  refine g_calli (pc' := 224) rfl rfl rfl rfl (Or.inr rfl) ?_
  refine d_wipe (hM.fr f1)  (fun m2 f2 hM2 => ?_)
  refine g_icmp_eq (pc' := 227) (t := 790) rfl rfl rfl (fun c_224 => ?_) (fun c_224 => absurd rfl c_224)
  exact h m2 _ (hC1.fr f2 (by omega)) hM2 (ok_wipe hO)
theorem lw_fault (hX : X.1 ≤ 3072) (hk : k ≤ 1000) (h6 : 6 * k + 6 ≤ X.1) (hC : CI m A) (hM : MI m A) (hO : OK k A) (h : ∀ m' A', CI m' A' → MI m' A' → OK (k + 1) A' → gG X 0 790 [.ref 0, .ref 1, .ref 53, .int (nI (6 * k))] [] m' Q) : gG X 0 229 [.ref 0, .ref 1, .ref 53, .int (nI (6 * k))] [] m Q := by
  refine g_aload_n (pc' := 230) rfl rfl rfl ?_
  refine g_calli (pc' := 233) rfl rfl rfl rfl (Or.inr rfl) ?_
  refine c_fault hC hO.2.1 (fun m1 f1 hC1 => ?_)
  refine g_aload_n (pc' := 234) rfl rfl rfl ?_
  refine g_calli (pc' := 237) rfl rfl rfl rfl (Or.inr rfl) ?_
  refine d_faultA (hM.fr f1) hO.2.1 (fun m2 f2 hM2 => ?_)
  refine g_icmp_eq (pc' := 240) (t := 790) rfl rfl rfl (fun c_237 => ?_) (fun c_237 => absurd rfl c_237)
  exact h m2 _ (hC1.fr f2 (by omega)) hM2 (ok_fault hO)
theorem lw_judge (hX : X.1 ≤ 3072) (hk : k ≤ 1000) (h6 : 6 * k + 6 ≤ X.1) (hC : CI m A) (hM : MI m A) (hO : OK k A) (h : ∀ m' A', CI m' A' → MI m' A' → OK (k + 1) A' → gG X 0 790 [.ref 0, .ref 1, .ref 53, .int (nI (6 * k))] [] m' Q) : gG X 0 242 [.ref 0, .ref 1, .ref 53, .int (nI (6 * k))] [] m Q := by
  refine g_aload_n (pc' := 243) rfl rfl rfl ?_
  refine g_aload_n (pc' := 244) rfl rfl rfl ?_
  refine g_iload_n (pc' := 245) rfl rfl rfl ?_
  refine g_iconst (pc' := 246) (v := 1) rfl rfl (by decide) ?_
  refine g_iadd (pc' := 247) rfl rfl ?_
  refine g_sld (pc' := 248) rfl rfl (k := 6 * k + 1) (by omega) (by omega) (nI_add _ 1) ?_
  refine g_calli (pc' := 251) rfl rfl rfl rfl (Or.inr rfl) ?_
  refine c_judge hC hO.2.1 (fun m1 f1 hC1 => ?_)
  refine g_aload_n (pc' := 252) rfl rfl rfl ?_
  refine g_aload_n (pc' := 253) rfl rfl rfl ?_
  refine g_iload_n (pc' := 254) rfl rfl rfl ?_
  refine g_iconst (pc' := 255) (v := 1) rfl rfl (by decide) ?_
  refine g_iadd (pc' := 256) rfl rfl ?_
  refine g_sld (pc' := 257) rfl rfl (k := 6 * k + 1) (by omega) (by omega) (nI_add _ 1) ?_
  refine g_calli (pc' := 260) rfl rfl rfl rfl (Or.inr rfl) ?_
  refine d_judge (hM.fr f1) hO.2.1 hO.1 (fun m2 f2 hM2 => ?_)
  refine g_icmp_eq (pc' := 263) (t := 790) rfl rfl rfl (fun c_260 => ?_) (fun c_260 => absurd rfl c_260)
  exact h m2 _ (hC1.fr f2 (by omega)) hM2 (ok_judge hO)
theorem lw_behind (hX : X.1 ≤ 3072) (hk : k ≤ 1000) (h6 : 6 * k + 6 ≤ X.1) (hC : CI m A) (hM : MI m A) (hO : OK k A) (h : ∀ m' A', CI m' A' → MI m' A' → OK (k + 1) A' → gG X 0 790 [.ref 0, .ref 1, .ref 53, .int (nI (6 * k))] [] m' Q) : gG X 0 265 [.ref 0, .ref 1, .ref 53, .int (nI (6 * k))] [] m Q := by
  refine g_aload_n (pc' := 266) rfl rfl rfl ?_
  refine g_aload_n (pc' := 267) rfl rfl rfl ?_
  refine g_iload_n (pc' := 268) rfl rfl rfl ?_
  refine g_iconst (pc' := 269) (v := 1) rfl rfl (by decide) ?_
  refine g_iadd (pc' := 270) rfl rfl ?_
  refine g_sld (pc' := 271) rfl rfl (k := 6 * k + 1) (by omega) (by omega) (nI_add _ 1) ?_
  refine g_aload_n (pc' := 272) rfl rfl rfl ?_
  refine g_iload_n (pc' := 273) rfl rfl rfl ?_
  refine g_iconst (pc' := 274) (v := 2) rfl rfl (by decide) ?_
  refine g_iadd (pc' := 275) rfl rfl ?_
  refine g_sld (pc' := 276) rfl rfl (k := 6 * k + 2) (by omega) (by omega) (nI_add _ 2) ?_
  refine g_calli (pc' := 279) rfl rfl rfl rfl (Or.inr rfl) ?_
  refine c_behind hC hO.2.1 (fun m1 f1 hC1 => ?_)
  refine g_aload_n (pc' := 280) rfl rfl rfl ?_
  refine g_aload_n (pc' := 281) rfl rfl rfl ?_
  refine g_iload_n (pc' := 282) rfl rfl rfl ?_
  refine g_iconst (pc' := 283) (v := 1) rfl rfl (by decide) ?_
  refine g_iadd (pc' := 284) rfl rfl ?_
  refine g_sld (pc' := 285) rfl rfl (k := 6 * k + 1) (by omega) (by omega) (nI_add _ 1) ?_
  refine g_aload_n (pc' := 286) rfl rfl rfl ?_
  refine g_iload_n (pc' := 287) rfl rfl rfl ?_
  refine g_iconst (pc' := 288) (v := 2) rfl rfl (by decide) ?_
  refine g_iadd (pc' := 289) rfl rfl ?_
  refine g_sld (pc' := 290) rfl rfl (k := 6 * k + 2) (by omega) (by omega) (nI_add _ 2) ?_
  refine g_calli (pc' := 293) rfl rfl rfl rfl (Or.inr rfl) ?_
  refine d_behind (hM.fr f1) hO.2.1 hO.1 (fun m2 f2 hM2 => ?_)
  refine g_icmp_eq (pc' := 296) (t := 790) rfl rfl rfl (fun c_293 => ?_) (fun c_293 => absurd rfl c_293)
  exact h m2 _ (hC1.fr f2 (by omega)) hM2 (ok_behind hO)
theorem lw_child (hX : X.1 ≤ 3072) (hk : k ≤ 1000) (h6 : 6 * k + 6 ≤ X.1) (hC : CI m A) (hM : MI m A) (hO : OK k A) (h : ∀ m' A', CI m' A' → MI m' A' → OK (k + 1) A' → gG X 0 790 [.ref 0, .ref 1, .ref 53, .int (nI (6 * k))] [] m' Q) : gG X 0 298 [.ref 0, .ref 1, .ref 53, .int (nI (6 * k))] [] m Q := by
  refine g_aload_n (pc' := 299) rfl rfl rfl ?_
  refine g_aload_n (pc' := 300) rfl rfl rfl ?_
  refine g_iload_n (pc' := 301) rfl rfl rfl ?_
  refine g_iconst (pc' := 302) (v := 1) rfl rfl (by decide) ?_
  refine g_iadd (pc' := 303) rfl rfl ?_
  refine g_sld (pc' := 304) rfl rfl (k := 6 * k + 1) (by omega) (by omega) (nI_add _ 1) ?_
  refine g_aload_n (pc' := 305) rfl rfl rfl ?_
  refine g_iload_n (pc' := 306) rfl rfl rfl ?_
  refine g_iconst (pc' := 307) (v := 2) rfl rfl (by decide) ?_
  refine g_iadd (pc' := 308) rfl rfl ?_
  refine g_sld (pc' := 309) rfl rfl (k := 6 * k + 2) (by omega) (by omega) (nI_add _ 2) ?_
  refine g_calli (pc' := 312) rfl rfl rfl rfl (Or.inr rfl) ?_
  refine c_child hC hO.2.1 (fun m1 f1 hC1 => ?_)
  refine g_aload_n (pc' := 313) rfl rfl rfl ?_
  refine g_aload_n (pc' := 314) rfl rfl rfl ?_
  refine g_iload_n (pc' := 315) rfl rfl rfl ?_
  refine g_iconst (pc' := 316) (v := 1) rfl rfl (by decide) ?_
  refine g_iadd (pc' := 317) rfl rfl ?_
  refine g_sld (pc' := 318) rfl rfl (k := 6 * k + 1) (by omega) (by omega) (nI_add _ 1) ?_
  refine g_aload_n (pc' := 319) rfl rfl rfl ?_
  refine g_iload_n (pc' := 320) rfl rfl rfl ?_
  refine g_iconst (pc' := 321) (v := 2) rfl rfl (by decide) ?_
  refine g_iadd (pc' := 322) rfl rfl ?_
  refine g_sld (pc' := 323) rfl rfl (k := 6 * k + 2) (by omega) (by omega) (nI_add _ 2) ?_
  refine g_calli (pc' := 326) rfl rfl rfl rfl (Or.inr rfl) ?_
  refine d_child (hM.fr f1) hO.2.1 hO.1 (fun m2 f2 hM2 => ?_)
  refine g_icmp_eq (pc' := 329) (t := 790) rfl rfl rfl (fun c_326 => ?_) (fun c_326 => absurd rfl c_326)
  exact h m2 _ (hC1.fr f2 (by omega)) hM2 (ok_child hO)
theorem lw_street (hX : X.1 ≤ 3072) (hk : k ≤ 1000) (h6 : 6 * k + 6 ≤ X.1) (hC : CI m A) (hM : MI m A) (hO : OK k A) (h : ∀ m' A', CI m' A' → MI m' A' → OK (k + 1) A' → gG X 0 790 [.ref 0, .ref 1, .ref 53, .int (nI (6 * k))] [] m' Q) : gG X 0 331 [.ref 0, .ref 1, .ref 53, .int (nI (6 * k))] [] m Q := by
  refine g_aload_n (pc' := 332) rfl rfl rfl ?_
  refine g_aload_n (pc' := 333) rfl rfl rfl ?_
  refine g_iload_n (pc' := 334) rfl rfl rfl ?_
  refine g_iconst (pc' := 335) (v := 1) rfl rfl (by decide) ?_
  refine g_iadd (pc' := 336) rfl rfl ?_
  refine g_sld (pc' := 337) rfl rfl (k := 6 * k + 1) (by omega) (by omega) (nI_add _ 1) ?_
  refine g_calli (pc' := 340) rfl rfl rfl rfl (Or.inr rfl) ?_
  refine c_street hC hO.2.1 (fun m1 f1 hC1 => ?_)
  refine g_aload_n (pc' := 341) rfl rfl rfl ?_
  refine g_aload_n (pc' := 342) rfl rfl rfl ?_
  refine g_iload_n (pc' := 343) rfl rfl rfl ?_
  refine g_iconst (pc' := 344) (v := 1) rfl rfl (by decide) ?_
  refine g_iadd (pc' := 345) rfl rfl ?_
  refine g_sld (pc' := 346) rfl rfl (k := 6 * k + 1) (by omega) (by omega) (nI_add _ 1) ?_
  refine g_calli (pc' := 349) rfl rfl rfl rfl (Or.inr rfl) ?_
  refine d_street (hM.fr f1) hO.2.1 hO.1 (fun m2 f2 hM2 => ?_) (by omega)
  refine g_icmp_eq (pc' := 352) (t := 790) rfl rfl rfl (fun c_349 => ?_) (fun c_349 => absurd rfl c_349)
  exact h m2 _ (hC1.fr f2 (by omega)) hM2 (ok_street hO)
theorem lw_first (hX : X.1 ≤ 3072) (hk : k ≤ 1000) (h6 : 6 * k + 6 ≤ X.1) (hC : CI m A) (hM : MI m A) (hO : OK k A) (h : ∀ m' A', CI m' A' → MI m' A' → OK (k + 1) A' → gG X 0 790 [.ref 0, .ref 1, .ref 53, .int (nI (6 * k))] [] m' Q) : gG X 0 354 [.ref 0, .ref 1, .ref 53, .int (nI (6 * k))] [] m Q := by
  refine g_aload_n (pc' := 355) rfl rfl rfl ?_
  refine g_aload_n (pc' := 356) rfl rfl rfl ?_
  refine g_iload_n (pc' := 357) rfl rfl rfl ?_
  refine g_iconst (pc' := 358) (v := 1) rfl rfl (by decide) ?_
  refine g_iadd (pc' := 359) rfl rfl ?_
  refine g_sld (pc' := 360) rfl rfl (k := 6 * k + 1) (by omega) (by omega) (nI_add _ 1) ?_
  refine g_calli (pc' := 363) rfl rfl rfl rfl (Or.inr rfl) ?_
  refine c_first hC hO.2.1 (fun m1 f1 hC1 => ?_)
  refine g_aload_n (pc' := 364) rfl rfl rfl ?_
  refine g_aload_n (pc' := 365) rfl rfl rfl ?_
  refine g_iload_n (pc' := 366) rfl rfl rfl ?_
  refine g_iconst (pc' := 367) (v := 1) rfl rfl (by decide) ?_
  refine g_iadd (pc' := 368) rfl rfl ?_
  refine g_sld (pc' := 369) rfl rfl (k := 6 * k + 1) (by omega) (by omega) (nI_add _ 1) ?_
  refine g_calli (pc' := 372) rfl rfl rfl rfl (Or.inr rfl) ?_
  refine d_first (hM.fr f1) hO.2.1 hO.1 (fun m2 f2 hM2 => ?_)
  refine g_icmp_eq (pc' := 375) (t := 790) rfl rfl rfl (fun c_372 => ?_) (fun c_372 => absurd rfl c_372)
  exact h m2 _ (hC1.fr f2 (by omega)) hM2 (ok_first hO)
theorem lw_done (hX : X.1 ≤ 3072) (hk : k ≤ 1000) (h6 : 6 * k + 6 ≤ X.1) (hC : CI m A) (hM : MI m A) (hO : OK k A) (h : ∀ m' A', CI m' A' → MI m' A' → OK (k + 1) A' → gG X 0 790 [.ref 0, .ref 1, .ref 53, .int (nI (6 * k))] [] m' Q) : gG X 0 377 [.ref 0, .ref 1, .ref 53, .int (nI (6 * k))] [] m Q := by
  refine g_aload_n (pc' := 378) rfl rfl rfl ?_
  refine g_calli (pc' := 381) rfl rfl rfl rfl (Or.inr rfl) ?_
  refine c_done hC hO.2.1 (fun m1 f1 hC1 => ?_)
  refine g_aload_n (pc' := 382) rfl rfl rfl ?_
  refine g_calli (pc' := 385) rfl rfl rfl rfl (Or.inr rfl) ?_
  refine d_done (hM.fr f1) hO.2.1 hO.1 (fun m2 f2 hM2 => ?_)
  refine g_icmp_eq (pc' := 388) (t := 790) rfl rfl rfl (fun c_385 => ?_) (fun c_385 => absurd rfl c_385)
  exact h m2 _ (hC1.fr f2 (by omega)) hM2 (ok_done hO)
theorem lw_fight (hX : X.1 ≤ 3072) (hk : k ≤ 1000) (h6 : 6 * k + 6 ≤ X.1) (hC : CI m A) (hM : MI m A) (hO : OK k A) (h : ∀ m' A', CI m' A' → MI m' A' → OK (k + 1) A' → gG X 0 790 [.ref 0, .ref 1, .ref 53, .int (nI (6 * k))] [] m' Q) : gG X 0 390 [.ref 0, .ref 1, .ref 53, .int (nI (6 * k))] [] m Q := by
  refine g_aload_n (pc' := 391) rfl rfl rfl ?_
  refine g_aload_n (pc' := 392) rfl rfl rfl ?_
  refine g_iload_n (pc' := 393) rfl rfl rfl ?_
  refine g_iconst (pc' := 394) (v := 1) rfl rfl (by decide) ?_
  refine g_iadd (pc' := 395) rfl rfl ?_
  refine g_sld (pc' := 396) rfl rfl (k := 6 * k + 1) (by omega) (by omega) (nI_add _ 1) ?_
  refine g_aload_n (pc' := 397) rfl rfl rfl ?_
  refine g_iload_n (pc' := 398) rfl rfl rfl ?_
  refine g_iconst (pc' := 399) (v := 2) rfl rfl (by decide) ?_
  refine g_iadd (pc' := 400) rfl rfl ?_
  refine g_sld (pc' := 401) rfl rfl (k := 6 * k + 2) (by omega) (by omega) (nI_add _ 2) ?_
  refine g_aload_n (pc' := 402) rfl rfl rfl ?_
  refine g_iload_n (pc' := 403) rfl rfl rfl ?_
  refine g_iconst (pc' := 404) (v := 3) rfl rfl (by decide) ?_
  refine g_iadd (pc' := 405) rfl rfl ?_
  refine g_sld (pc' := 406) rfl rfl (k := 6 * k + 3) (by omega) (by omega) (nI_add _ 3) ?_
  refine g_calli (pc' := 409) rfl rfl rfl rfl (Or.inr rfl) ?_
  refine c_fight hC hO.1 (fun m1 f1 hC1 => ?_)
  refine g_aload_n (pc' := 410) rfl rfl rfl ?_
  refine g_aload_n (pc' := 411) rfl rfl rfl ?_
  refine g_iload_n (pc' := 412) rfl rfl rfl ?_
  refine g_iconst (pc' := 413) (v := 1) rfl rfl (by decide) ?_
  refine g_iadd (pc' := 414) rfl rfl ?_
  refine g_sld (pc' := 415) rfl rfl (k := 6 * k + 1) (by omega) (by omega) (nI_add _ 1) ?_
  refine g_aload_n (pc' := 416) rfl rfl rfl ?_
  refine g_iload_n (pc' := 417) rfl rfl rfl ?_
  refine g_iconst (pc' := 418) (v := 2) rfl rfl (by decide) ?_
  refine g_iadd (pc' := 419) rfl rfl ?_
  refine g_sld (pc' := 420) rfl rfl (k := 6 * k + 2) (by omega) (by omega) (nI_add _ 2) ?_
  refine g_aload_n (pc' := 421) rfl rfl rfl ?_
  refine g_iload_n (pc' := 422) rfl rfl rfl ?_
  refine g_iconst (pc' := 423) (v := 3) rfl rfl (by decide) ?_
  refine g_iadd (pc' := 424) rfl rfl ?_
  refine g_sld (pc' := 425) rfl rfl (k := 6 * k + 3) (by omega) (by omega) (nI_add _ 3) ?_
  refine g_calli (pc' := 428) rfl rfl rfl rfl (Or.inr rfl) ?_
  refine d_fight (hM.fr f1) hO.1 (fun m2 f2 hM2 => ?_)
  refine g_icmp_eq (pc' := 431) (t := 790) rfl rfl rfl (fun c_428 => ?_) (fun c_428 => absurd rfl c_428)
  exact h m2 _ (hC1.fr f2 (by omega)) hM2 (ok_fight hO)
theorem lw_round (hX : X.1 ≤ 3072) (hk : k ≤ 1000) (h6 : 6 * k + 6 ≤ X.1) (hC : CI m A) (hM : MI m A) (hO : OK k A) (h : ∀ m' A', CI m' A' → MI m' A' → OK (k + 1) A' → gG X 0 790 [.ref 0, .ref 1, .ref 53, .int (nI (6 * k))] [] m' Q) : gG X 0 433 [.ref 0, .ref 1, .ref 53, .int (nI (6 * k))] [] m Q := by
  refine g_aload_n (pc' := 434) rfl rfl rfl ?_
  refine g_aload_n (pc' := 435) rfl rfl rfl ?_
  refine g_iload_n (pc' := 436) rfl rfl rfl ?_
  refine g_iconst (pc' := 437) (v := 1) rfl rfl (by decide) ?_
  refine g_iadd (pc' := 438) rfl rfl ?_
  refine g_sld (pc' := 439) rfl rfl (k := 6 * k + 1) (by omega) (by omega) (nI_add _ 1) ?_
  refine g_aload_n (pc' := 440) rfl rfl rfl ?_
  refine g_iload_n (pc' := 441) rfl rfl rfl ?_
  refine g_iconst (pc' := 442) (v := 2) rfl rfl (by decide) ?_
  refine g_iadd (pc' := 443) rfl rfl ?_
  refine g_sld (pc' := 444) rfl rfl (k := 6 * k + 2) (by omega) (by omega) (nI_add _ 2) ?_
  refine g_calli (pc' := 447) rfl rfl rfl rfl (Or.inr rfl) ?_
  refine c_round hC hO.1 (fun m1 f1 hC1 => ?_)
  refine g_aload_n (pc' := 448) rfl rfl rfl ?_
  refine g_aload_n (pc' := 449) rfl rfl rfl ?_
  refine g_iload_n (pc' := 450) rfl rfl rfl ?_
  refine g_iconst (pc' := 451) (v := 1) rfl rfl (by decide) ?_
  refine g_iadd (pc' := 452) rfl rfl ?_
  refine g_sld (pc' := 453) rfl rfl (k := 6 * k + 1) (by omega) (by omega) (nI_add _ 1) ?_
  refine g_aload_n (pc' := 454) rfl rfl rfl ?_
  refine g_iload_n (pc' := 455) rfl rfl rfl ?_
  refine g_iconst (pc' := 456) (v := 2) rfl rfl (by decide) ?_
  refine g_iadd (pc' := 457) rfl rfl ?_
  refine g_sld (pc' := 458) rfl rfl (k := 6 * k + 2) (by omega) (by omega) (nI_add _ 2) ?_
  refine g_calli (pc' := 461) rfl rfl rfl rfl (Or.inr rfl) ?_
  refine d_round (hM.fr f1) hO.1 (fun m2 f2 hM2 => ?_)
  refine g_icmp_eq (pc' := 464) (t := 790) rfl rfl rfl (fun c_461 => ?_) (fun c_461 => absurd rfl c_461)
  exact h m2 _ (hC1.fr f2 (by omega)) hM2 (ok_round hO)
theorem lw_cup (hX : X.1 ≤ 3072) (hk : k ≤ 1000) (h6 : 6 * k + 6 ≤ X.1) (hC : CI m A) (hM : MI m A) (hO : OK k A) (h : ∀ m' A', CI m' A' → MI m' A' → OK (k + 1) A' → gG X 0 790 [.ref 0, .ref 1, .ref 53, .int (nI (6 * k))] [] m' Q) : gG X 0 466 [.ref 0, .ref 1, .ref 53, .int (nI (6 * k))] [] m Q := by
  refine g_aload_n (pc' := 467) rfl rfl rfl ?_
  refine g_aload_n (pc' := 468) rfl rfl rfl ?_
  refine g_iload_n (pc' := 469) rfl rfl rfl ?_
  refine g_iconst (pc' := 470) (v := 1) rfl rfl (by decide) ?_
  refine g_iadd (pc' := 471) rfl rfl ?_
  refine g_sld (pc' := 472) rfl rfl (k := 6 * k + 1) (by omega) (by omega) (nI_add _ 1) ?_
  refine g_calli (pc' := 475) rfl rfl rfl rfl (Or.inr rfl) ?_
  refine c_cup hC hO.1 (fun m1 f1 hC1 => ?_)
  refine g_aload_n (pc' := 476) rfl rfl rfl ?_
  refine g_aload_n (pc' := 477) rfl rfl rfl ?_
  refine g_iload_n (pc' := 478) rfl rfl rfl ?_
  refine g_iconst (pc' := 479) (v := 1) rfl rfl (by decide) ?_
  refine g_iadd (pc' := 480) rfl rfl ?_
  refine g_sld (pc' := 481) rfl rfl (k := 6 * k + 1) (by omega) (by omega) (nI_add _ 1) ?_
  refine g_calli (pc' := 484) rfl rfl rfl rfl (Or.inr rfl) ?_
  refine d_cup (hM.fr f1) hO.1 (fun m2 f2 hM2 => ?_)
  refine g_icmp_eq (pc' := 487) (t := 790) rfl rfl rfl (fun c_484 => ?_) (fun c_484 => absurd rfl c_484)
  exact h m2 _ (hC1.fr f2 (by omega)) hM2 (ok_cup hO)
theorem lw_harder (hX : X.1 ≤ 3072) (hk : k ≤ 1000) (h6 : 6 * k + 6 ≤ X.1) (hC : CI m A) (hM : MI m A) (hO : OK k A) (h : ∀ m' A', CI m' A' → MI m' A' → OK (k + 1) A' → gG X 0 790 [.ref 0, .ref 1, .ref 53, .int (nI (6 * k))] [] m' Q) : gG X 0 489 [.ref 0, .ref 1, .ref 53, .int (nI (6 * k))] [] m Q := by
  refine g_aload_n (pc' := 490) rfl rfl rfl ?_
  refine g_aload_n (pc' := 491) rfl rfl rfl ?_
  refine g_iload_n (pc' := 492) rfl rfl rfl ?_
  refine g_iconst (pc' := 493) (v := 1) rfl rfl (by decide) ?_
  refine g_iadd (pc' := 494) rfl rfl ?_
  refine g_sld (pc' := 495) rfl rfl (k := 6 * k + 1) (by omega) (by omega) (nI_add _ 1) ?_
  refine g_aload_n (pc' := 496) rfl rfl rfl ?_
  refine g_iload_n (pc' := 497) rfl rfl rfl ?_
  refine g_iconst (pc' := 498) (v := 2) rfl rfl (by decide) ?_
  refine g_iadd (pc' := 499) rfl rfl ?_
  refine g_sld (pc' := 500) rfl rfl (k := 6 * k + 2) (by omega) (by omega) (nI_add _ 2) ?_
  refine g_calli (pc' := 503) rfl rfl rfl rfl (Or.inr rfl) ?_
  refine c_harder hC hO.2.2.1.1 hO.2.2.1.2.1 (fun m1 f1 hC1 => ?_)
  refine g_aload_n (pc' := 504) rfl rfl rfl ?_
  refine g_aload_n (pc' := 505) rfl rfl rfl ?_
  refine g_iload_n (pc' := 506) rfl rfl rfl ?_
  refine g_iconst (pc' := 507) (v := 1) rfl rfl (by decide) ?_
  refine g_iadd (pc' := 508) rfl rfl ?_
  refine g_sld (pc' := 509) rfl rfl (k := 6 * k + 1) (by omega) (by omega) (nI_add _ 1) ?_
  refine g_aload_n (pc' := 510) rfl rfl rfl ?_
  refine g_iload_n (pc' := 511) rfl rfl rfl ?_
  refine g_iconst (pc' := 512) (v := 2) rfl rfl (by decide) ?_
  refine g_iadd (pc' := 513) rfl rfl ?_
  refine g_sld (pc' := 514) rfl rfl (k := 6 * k + 2) (by omega) (by omega) (nI_add _ 2) ?_
  refine g_calli (pc' := 517) rfl rfl rfl rfl (Or.inr rfl) ?_
  refine d_harder (hM.fr f1) hO.2.2.1.1 hO.2.2.1.2.1 (fun m2 f2 hM2 => ?_)
  refine g_icmp_eq (pc' := 520) (t := 790) rfl rfl rfl (fun c_517 => ?_) (fun c_517 => absurd rfl c_517)
  exact h m2 _ (hC1.fr f2 (by omega)) hM2 (ok_harder hO)
theorem lw_forget (hX : X.1 ≤ 3072) (hk : k ≤ 1000) (h6 : 6 * k + 6 ≤ X.1) (hC : CI m A) (hM : MI m A) (hO : OK k A) (h : ∀ m' A', CI m' A' → MI m' A' → OK (k + 1) A' → gG X 0 790 [.ref 0, .ref 1, .ref 53, .int (nI (6 * k))] [] m' Q) : gG X 0 522 [.ref 0, .ref 1, .ref 53, .int (nI (6 * k))] [] m Q := by
  refine g_aload_n (pc' := 523) rfl rfl rfl ?_
  refine g_calli (pc' := 526) rfl rfl rfl rfl (Or.inr rfl) ?_
  refine c_forget hC  (fun m1 f1 hC1 => ?_)
  refine g_aload_n (pc' := 527) rfl rfl rfl ?_
  refine g_calli (pc' := 530) rfl rfl rfl rfl (Or.inr rfl) ?_
  refine d_forget (hM.fr f1)  (fun m2 f2 hM2 => ?_)
  refine g_icmp_eq (pc' := 533) (t := 790) rfl rfl rfl (fun c_530 => ?_) (fun c_530 => absurd rfl c_530)
  exact h m2 _ (hC1.fr f2 (by omega)) hM2 (ok_forget hO)
theorem lw_orders (hX : X.1 ≤ 3072) (hk : k ≤ 1000) (h6 : 6 * k + 6 ≤ X.1) (hC : CI m A) (hM : MI m A) (hO : OK k A) (h : ∀ m' A', CI m' A' → MI m' A' → OK (k + 1) A' → gG X 0 790 [.ref 0, .ref 1, .ref 53, .int (nI (6 * k))] [] m' Q) : gG X 0 535 [.ref 0, .ref 1, .ref 53, .int (nI (6 * k))] [] m Q := by
  refine g_aload_n (pc' := 536) rfl rfl rfl ?_
  refine g_aload_n (pc' := 537) rfl rfl rfl ?_
  refine g_iload_n (pc' := 538) rfl rfl rfl ?_
  refine g_iconst (pc' := 539) (v := 1) rfl rfl (by decide) ?_
  refine g_iadd (pc' := 540) rfl rfl ?_
  refine g_sld (pc' := 541) rfl rfl (k := 6 * k + 1) (by omega) (by omega) (nI_add _ 1) ?_
  refine g_calli (pc' := 544) rfl rfl rfl rfl (Or.inr rfl) ?_
  refine c_orders hC hO.2.2.1 (fun m1 f1 hC1 => ?_)
  refine g_aload_n (pc' := 545) rfl rfl rfl ?_
  refine g_aload_n (pc' := 546) rfl rfl rfl ?_
  refine g_iload_n (pc' := 547) rfl rfl rfl ?_
  refine g_iconst (pc' := 548) (v := 1) rfl rfl (by decide) ?_
  refine g_iadd (pc' := 549) rfl rfl ?_
  refine g_sld (pc' := 550) rfl rfl (k := 6 * k + 1) (by omega) (by omega) (nI_add _ 1) ?_
  refine g_calli (pc' := 553) rfl rfl rfl rfl (Or.inr rfl) ?_
  refine d_orders (hM.fr f1) hO.2.2.1 (fun m2 f2 hM2 => ?_)
  refine g_icmp_eq (pc' := 556) (t := 790) rfl rfl rfl (fun c_553 => ?_) (fun c_553 => absurd rfl c_553)
  exact h m2 _ (hC1.fr f2 (by omega)) hM2 (ok_orders hO)
theorem lw_ask (hX : X.1 ≤ 3072) (hk : k ≤ 1000) (h6 : 6 * k + 6 ≤ X.1) (hC : CI m A) (hM : MI m A) (hO : OK k A) (h : ∀ m' A', CI m' A' → MI m' A' → OK (k + 1) A' → gG X 0 790 [.ref 0, .ref 1, .ref 53, .int (nI (6 * k))] [] m' Q) : gG X 0 558 [.ref 0, .ref 1, .ref 53, .int (nI (6 * k))] [] m Q := by
  refine g_aload_n (pc' := 559) rfl rfl rfl ?_
  refine g_aload_n (pc' := 560) rfl rfl rfl ?_
  refine g_iload_n (pc' := 561) rfl rfl rfl ?_
  refine g_iconst (pc' := 562) (v := 1) rfl rfl (by decide) ?_
  refine g_iadd (pc' := 563) rfl rfl ?_
  refine g_sld (pc' := 564) rfl rfl (k := 6 * k + 1) (by omega) (by omega) (nI_add _ 1) ?_
  refine g_calli (pc' := 567) rfl rfl rfl rfl (Or.inr rfl) ?_
  refine c_ask hC hO.2.2.1 (fun m1 f1 hC1 => ?_)
  refine g_aload_n (pc' := 568) rfl rfl rfl ?_
  refine g_aload_n (pc' := 569) rfl rfl rfl ?_
  refine g_iload_n (pc' := 570) rfl rfl rfl ?_
  refine g_iconst (pc' := 571) (v := 1) rfl rfl (by decide) ?_
  refine g_iadd (pc' := 572) rfl rfl ?_
  refine g_sld (pc' := 573) rfl rfl (k := 6 * k + 1) (by omega) (by omega) (nI_add _ 1) ?_
  refine g_calli (pc' := 576) rfl rfl rfl rfl (Or.inr rfl) ?_
  refine d_ask (hM.fr f1) hO.2.2.1 (fun m2 f2 hM2 => ?_)
  refine g_icmp_eq (pc' := 579) (t := 790) rfl rfl rfl (fun c_576 => ?_) (fun c_576 => absurd rfl c_576)
  exact h m2 _ (hC1.fr f2 (by omega)) hM2 (ok_ask hO)
theorem lw_row (hX : X.1 ≤ 3072) (hk : k ≤ 1000) (h6 : 6 * k + 6 ≤ X.1) (hC : CI m A) (hM : MI m A) (hO : OK k A) (h : ∀ m' A', CI m' A' → MI m' A' → OK (k + 1) A' → gG X 0 790 [.ref 0, .ref 1, .ref 53, .int (nI (6 * k))] [] m' Q) : gG X 0 581 [.ref 0, .ref 1, .ref 53, .int (nI (6 * k))] [] m Q := by
  refine g_aload_n (pc' := 582) rfl rfl rfl ?_
  refine g_aload_n (pc' := 583) rfl rfl rfl ?_
  refine g_iload_n (pc' := 584) rfl rfl rfl ?_
  refine g_iconst (pc' := 585) (v := 1) rfl rfl (by decide) ?_
  refine g_iadd (pc' := 586) rfl rfl ?_
  refine g_sld (pc' := 587) rfl rfl (k := 6 * k + 1) (by omega) (by omega) (nI_add _ 1) ?_
  refine g_aload_n (pc' := 588) rfl rfl rfl ?_
  refine g_iload_n (pc' := 589) rfl rfl rfl ?_
  refine g_iconst (pc' := 590) (v := 2) rfl rfl (by decide) ?_
  refine g_iadd (pc' := 591) rfl rfl ?_
  refine g_sld (pc' := 592) rfl rfl (k := 6 * k + 2) (by omega) (by omega) (nI_add _ 2) ?_
  refine g_calli (pc' := 595) rfl rfl rfl rfl (Or.inr rfl) ?_
  refine c_row hC  (fun m1 f1 hC1 => ?_)
  refine g_aload_n (pc' := 596) rfl rfl rfl ?_
  refine g_aload_n (pc' := 597) rfl rfl rfl ?_
  refine g_iload_n (pc' := 598) rfl rfl rfl ?_
  refine g_iconst (pc' := 599) (v := 1) rfl rfl (by decide) ?_
  refine g_iadd (pc' := 600) rfl rfl ?_
  refine g_sld (pc' := 601) rfl rfl (k := 6 * k + 1) (by omega) (by omega) (nI_add _ 1) ?_
  refine g_aload_n (pc' := 602) rfl rfl rfl ?_
  refine g_iload_n (pc' := 603) rfl rfl rfl ?_
  refine g_iconst (pc' := 604) (v := 2) rfl rfl (by decide) ?_
  refine g_iadd (pc' := 605) rfl rfl ?_
  refine g_sld (pc' := 606) rfl rfl (k := 6 * k + 2) (by omega) (by omega) (nI_add _ 2) ?_
  refine g_calli (pc' := 609) rfl rfl rfl rfl (Or.inr rfl) ?_
  refine d_row (hM.fr f1)  (fun m2 f2 hM2 => ?_)
  refine g_icmp_eq (pc' := 612) (t := 790) rfl rfl rfl (fun c_609 => ?_) (fun c_609 => absurd rfl c_609)
  exact h m2 _ (hC1.fr f2 (by omega)) hM2 (ok_row hO)
theorem lw_lot (hX : X.1 ≤ 3072) (hk : k ≤ 1000) (h6 : 6 * k + 6 ≤ X.1) (hC : CI m A) (hM : MI m A) (hO : OK k A) (h : ∀ m' A', CI m' A' → MI m' A' → OK (k + 1) A' → gG X 0 790 [.ref 0, .ref 1, .ref 53, .int (nI (6 * k))] [] m' Q) : gG X 0 614 [.ref 0, .ref 1, .ref 53, .int (nI (6 * k))] [] m Q := by
  refine g_aload_n (pc' := 615) rfl rfl rfl ?_
  refine g_aload_n (pc' := 616) rfl rfl rfl ?_
  refine g_iload_n (pc' := 617) rfl rfl rfl ?_
  refine g_iconst (pc' := 618) (v := 1) rfl rfl (by decide) ?_
  refine g_iadd (pc' := 619) rfl rfl ?_
  refine g_sld (pc' := 620) rfl rfl (k := 6 * k + 1) (by omega) (by omega) (nI_add _ 1) ?_
  refine g_aload_n (pc' := 621) rfl rfl rfl ?_
  refine g_iload_n (pc' := 622) rfl rfl rfl ?_
  refine g_iconst (pc' := 623) (v := 2) rfl rfl (by decide) ?_
  refine g_iadd (pc' := 624) rfl rfl ?_
  refine g_sld (pc' := 625) rfl rfl (k := 6 * k + 2) (by omega) (by omega) (nI_add _ 2) ?_
  refine g_aload_n (pc' := 626) rfl rfl rfl ?_
  refine g_iload_n (pc' := 627) rfl rfl rfl ?_
  refine g_iconst (pc' := 628) (v := 3) rfl rfl (by decide) ?_
  refine g_iadd (pc' := 629) rfl rfl ?_
  refine g_sld (pc' := 630) rfl rfl (k := 6 * k + 3) (by omega) (by omega) (nI_add _ 3) ?_
  refine g_aload_n (pc' := 631) rfl rfl rfl ?_
  refine g_iload_n (pc' := 632) rfl rfl rfl ?_
  refine g_iconst (pc' := 633) (v := 4) rfl rfl (by decide) ?_
  refine g_iadd (pc' := 634) rfl rfl ?_
  refine g_sld (pc' := 635) rfl rfl (k := 6 * k + 4) (by omega) (by omega) (nI_add _ 4) ?_
  refine g_aload_n (pc' := 636) rfl rfl rfl ?_
  refine g_iload_n (pc' := 637) rfl rfl rfl ?_
  refine g_iconst (pc' := 638) (v := 5) rfl rfl (by decide) ?_
  refine g_iadd (pc' := 639) rfl rfl ?_
  refine g_sld (pc' := 640) rfl rfl (k := 6 * k + 5) (by omega) (by omega) (nI_add _ 5) ?_
  refine g_calll (pc' := 643) rfl rfl rfl rfl (Or.inr rfl) ?_
  refine c_lot hC  (fun m1 f1 hC1 => ?_)
  refine g_aload_n (pc' := 644) rfl rfl rfl ?_
  refine g_aload_n (pc' := 645) rfl rfl rfl ?_
  refine g_iload_n (pc' := 646) rfl rfl rfl ?_
  refine g_iconst (pc' := 647) (v := 1) rfl rfl (by decide) ?_
  refine g_iadd (pc' := 648) rfl rfl ?_
  refine g_sld (pc' := 649) rfl rfl (k := 6 * k + 1) (by omega) (by omega) (nI_add _ 1) ?_
  refine g_aload_n (pc' := 650) rfl rfl rfl ?_
  refine g_iload_n (pc' := 651) rfl rfl rfl ?_
  refine g_iconst (pc' := 652) (v := 2) rfl rfl (by decide) ?_
  refine g_iadd (pc' := 653) rfl rfl ?_
  refine g_sld (pc' := 654) rfl rfl (k := 6 * k + 2) (by omega) (by omega) (nI_add _ 2) ?_
  refine g_aload_n (pc' := 655) rfl rfl rfl ?_
  refine g_iload_n (pc' := 656) rfl rfl rfl ?_
  refine g_iconst (pc' := 657) (v := 3) rfl rfl (by decide) ?_
  refine g_iadd (pc' := 658) rfl rfl ?_
  refine g_sld (pc' := 659) rfl rfl (k := 6 * k + 3) (by omega) (by omega) (nI_add _ 3) ?_
  refine g_aload_n (pc' := 660) rfl rfl rfl ?_
  refine g_iload_n (pc' := 661) rfl rfl rfl ?_
  refine g_iconst (pc' := 662) (v := 4) rfl rfl (by decide) ?_
  refine g_iadd (pc' := 663) rfl rfl ?_
  refine g_sld (pc' := 664) rfl rfl (k := 6 * k + 4) (by omega) (by omega) (nI_add _ 4) ?_
  refine g_aload_n (pc' := 665) rfl rfl rfl ?_
  refine g_iload_n (pc' := 666) rfl rfl rfl ?_
  refine g_iconst (pc' := 667) (v := 5) rfl rfl (by decide) ?_
  refine g_iadd (pc' := 668) rfl rfl ?_
  refine g_sld (pc' := 669) rfl rfl (k := 6 * k + 5) (by omega) (by omega) (nI_add _ 5) ?_
  refine g_calll (pc' := 672) rfl rfl rfl rfl (Or.inr rfl) ?_
  refine d_lot (hM.fr f1)  (fun m2 f2 hM2 => ?_)
  refine g_lcmp (pc' := 673) rfl rfl ?_
  refine g_if_eq (pc' := 676) (t := 790) rfl rfl rfl (fun c_673 => ?_) (fun c_673 => absurd (lg_0.mpr rfl) c_673)
  exact h m2 _ (hC1.fr f2 (by omega)) hM2 (ok_lot hO)
theorem lw_year (hX : X.1 ≤ 3072) (hk : k ≤ 1000) (h6 : 6 * k + 6 ≤ X.1) (hC : CI m A) (hM : MI m A) (hO : OK k A) (h : ∀ m' A', CI m' A' → MI m' A' → OK (k + 1) A' → gG X 0 790 [.ref 0, .ref 1, .ref 53, .int (nI (6 * k))] [] m' Q) : gG X 0 678 [.ref 0, .ref 1, .ref 53, .int (nI (6 * k))] [] m Q := by
  refine g_aload_n (pc' := 679) rfl rfl rfl ?_
  refine g_aload_n (pc' := 680) rfl rfl rfl ?_
  refine g_iload_n (pc' := 681) rfl rfl rfl ?_
  refine g_iconst (pc' := 682) (v := 1) rfl rfl (by decide) ?_
  refine g_iadd (pc' := 683) rfl rfl ?_
  refine g_sld (pc' := 684) rfl rfl (k := 6 * k + 1) (by omega) (by omega) (nI_add _ 1) ?_
  refine g_aload_n (pc' := 685) rfl rfl rfl ?_
  refine g_iload_n (pc' := 686) rfl rfl rfl ?_
  refine g_iconst (pc' := 687) (v := 2) rfl rfl (by decide) ?_
  refine g_iadd (pc' := 688) rfl rfl ?_
  refine g_sld (pc' := 689) rfl rfl (k := 6 * k + 2) (by omega) (by omega) (nI_add _ 2) ?_
  refine g_aload_n (pc' := 690) rfl rfl rfl ?_
  refine g_iload_n (pc' := 691) rfl rfl rfl ?_
  refine g_iconst (pc' := 692) (v := 3) rfl rfl (by decide) ?_
  refine g_iadd (pc' := 693) rfl rfl ?_
  refine g_sld (pc' := 694) rfl rfl (k := 6 * k + 3) (by omega) (by omega) (nI_add _ 3) ?_
  refine g_calli (pc' := 697) rfl rfl rfl rfl (Or.inr rfl) ?_
  refine c_year hC  (fun m1 f1 hC1 => ?_)
  refine g_aload_n (pc' := 698) rfl rfl rfl ?_
  refine g_aload_n (pc' := 699) rfl rfl rfl ?_
  refine g_iload_n (pc' := 700) rfl rfl rfl ?_
  refine g_iconst (pc' := 701) (v := 1) rfl rfl (by decide) ?_
  refine g_iadd (pc' := 702) rfl rfl ?_
  refine g_sld (pc' := 703) rfl rfl (k := 6 * k + 1) (by omega) (by omega) (nI_add _ 1) ?_
  refine g_aload_n (pc' := 704) rfl rfl rfl ?_
  refine g_iload_n (pc' := 705) rfl rfl rfl ?_
  refine g_iconst (pc' := 706) (v := 2) rfl rfl (by decide) ?_
  refine g_iadd (pc' := 707) rfl rfl ?_
  refine g_sld (pc' := 708) rfl rfl (k := 6 * k + 2) (by omega) (by omega) (nI_add _ 2) ?_
  refine g_aload_n (pc' := 709) rfl rfl rfl ?_
  refine g_iload_n (pc' := 710) rfl rfl rfl ?_
  refine g_iconst (pc' := 711) (v := 3) rfl rfl (by decide) ?_
  refine g_iadd (pc' := 712) rfl rfl ?_
  refine g_sld (pc' := 713) rfl rfl (k := 6 * k + 3) (by omega) (by omega) (nI_add _ 3) ?_
  refine g_calli (pc' := 716) rfl rfl rfl rfl (Or.inr rfl) ?_
  refine d_year (hM.fr f1) hO.1 (by omega) (fun m2 f2 hM2 => ?_)
  refine g_icmp_eq (pc' := 719) (t := 790) rfl rfl rfl (fun c_716 => ?_) (fun c_716 => absurd rfl c_716)
  exact h m2 _ (hC1.fr f2 (by omega)) hM2 (ok_year hO)
theorem lw_image (hX : X.1 ≤ 3072) (hk : k ≤ 1000) (h6 : 6 * k + 6 ≤ X.1) (hC : CI m A) (hM : MI m A) (hO : OK k A) (h : ∀ m' A', CI m' A' → MI m' A' → OK (k + 1) A' → gG X 0 790 [.ref 0, .ref 1, .ref 53, .int (nI (6 * k))] [] m' Q) : gG X 0 721 [.ref 0, .ref 1, .ref 53, .int (nI (6 * k))] [] m Q := by
  refine g_aload_n (pc' := 722) rfl rfl rfl ?_
  refine g_aload_n (pc' := 723) rfl rfl rfl ?_
  refine g_iload_n (pc' := 724) rfl rfl rfl ?_
  refine g_iconst (pc' := 725) (v := 1) rfl rfl (by decide) ?_
  refine g_iadd (pc' := 726) rfl rfl ?_
  refine g_sld (pc' := 727) rfl rfl (k := 6 * k + 1) (by omega) (by omega) (nI_add _ 1) ?_
  refine g_calli (pc' := 730) rfl rfl rfl rfl (Or.inr rfl) ?_
  refine c_image hC  (fun m1 f1 hC1 => ?_)
  refine g_aload_n (pc' := 731) rfl rfl rfl ?_
  refine g_aload_n (pc' := 732) rfl rfl rfl ?_
  refine g_iload_n (pc' := 733) rfl rfl rfl ?_
  refine g_iconst (pc' := 734) (v := 1) rfl rfl (by decide) ?_
  refine g_iadd (pc' := 735) rfl rfl ?_
  refine g_sld (pc' := 736) rfl rfl (k := 6 * k + 1) (by omega) (by omega) (nI_add _ 1) ?_
  refine g_calli (pc' := 739) rfl rfl rfl rfl (Or.inr rfl) ?_
  refine d_image (hM.fr f1)  (fun m2 f2 hM2 => ?_)
  refine g_icmp_eq (pc' := 742) (t := 790) rfl rfl rfl (fun c_739 => ?_) (fun c_739 => absurd rfl c_739)
  exact h m2 _ (hC1.fr f2 (by omega)) hM2 (ok_image hO)
theorem lw_restore (hX : X.1 ≤ 3072) (hk : k ≤ 1000) (h6 : 6 * k + 6 ≤ X.1) (hC : CI m A) (hM : MI m A) (hO : OK k A) (h : ∀ m' A', CI m' A' → MI m' A' → OK (k + 1) A' → gG X 0 790 [.ref 0, .ref 1, .ref 53, .int (nI (6 * k))] [] m' Q) : gG X 0 744 [.ref 0, .ref 1, .ref 53, .int (nI (6 * k))] [] m Q := by
  refine g_aload_n (pc' := 745) rfl rfl rfl ?_
  refine g_aload_n (pc' := 746) rfl rfl rfl ?_
  refine g_iload_n (pc' := 747) rfl rfl rfl ?_
  refine g_iconst (pc' := 748) (v := 1) rfl rfl (by decide) ?_
  refine g_iadd (pc' := 749) rfl rfl ?_
  refine g_sld (pc' := 750) rfl rfl (k := 6 * k + 1) (by omega) (by omega) (nI_add _ 1) ?_
  refine g_calli (pc' := 753) rfl rfl rfl rfl (Or.inr rfl) ?_
  refine c_restore hC  (fun m1 f1 hC1 => ?_)
  refine g_aload_n (pc' := 754) rfl rfl rfl ?_
  refine g_aload_n (pc' := 755) rfl rfl rfl ?_
  refine g_iload_n (pc' := 756) rfl rfl rfl ?_
  refine g_iconst (pc' := 757) (v := 1) rfl rfl (by decide) ?_
  refine g_iadd (pc' := 758) rfl rfl ?_
  refine g_sld (pc' := 759) rfl rfl (k := 6 * k + 1) (by omega) (by omega) (nI_add _ 1) ?_
  refine g_calli (pc' := 762) rfl rfl rfl rfl (Or.inr rfl) ?_
  refine d_restore (hM.fr f1)  (fun m2 f2 hM2 => ?_)
  refine g_icmp_eq (pc' := 765) (t := 790) rfl rfl rfl (fun c_762 => ?_) (fun c_762 => absurd rfl c_762)
  exact h m2 _ (hC1.fr f2 (by omega)) hM2 (ok_restore hO)
theorem lw_told (hX : X.1 ≤ 3072) (hk : k ≤ 1000) (h6 : 6 * k + 6 ≤ X.1) (hC : CI m A) (hM : MI m A) (hO : OK k A) (h : ∀ m' A', CI m' A' → MI m' A' → OK (k + 1) A' → gG X 0 790 [.ref 0, .ref 1, .ref 53, .int (nI (6 * k))] [] m' Q) : gG X 0 767 [.ref 0, .ref 1, .ref 53, .int (nI (6 * k))] [] m Q := by
  refine g_aload_n (pc' := 768) rfl rfl rfl ?_
  refine g_aload_n (pc' := 769) rfl rfl rfl ?_
  refine g_iload_n (pc' := 770) rfl rfl rfl ?_
  refine g_iconst (pc' := 771) (v := 1) rfl rfl (by decide) ?_
  refine g_iadd (pc' := 772) rfl rfl ?_
  refine g_sld (pc' := 773) rfl rfl (k := 6 * k + 1) (by omega) (by omega) (nI_add _ 1) ?_
  refine g_calli (pc' := 776) rfl rfl rfl rfl (Or.inr rfl) ?_
  refine c_told hC  (fun m1 f1 hC1 => ?_)
  refine g_aload_n (pc' := 777) rfl rfl rfl ?_
  refine g_aload_n (pc' := 778) rfl rfl rfl ?_
  refine g_iload_n (pc' := 779) rfl rfl rfl ?_
  refine g_iconst (pc' := 780) (v := 1) rfl rfl (by decide) ?_
  refine g_iadd (pc' := 781) rfl rfl ?_
  refine g_sld (pc' := 782) rfl rfl (k := 6 * k + 1) (by omega) (by omega) (nI_add _ 1) ?_
  refine g_calli (pc' := 785) rfl rfl rfl rfl (Or.inr rfl) ?_
  refine d_told (hM.fr f1)  (fun m2 f2 hM2 => ?_)
  refine g_icmp_eq (pc' := 788) (t := 790) rfl rfl rfl (fun c_785 => ?_) (fun c_785 => absurd rfl c_785)
  exact h m2 _ (hC1.fr f2 (by omega)) hM2 (ok_told hO)
end W1
theorem law_loop (X : aX) (hX : X.1 ≤ 3072) : ∀ (d k : Nat) (m : aMem) (A : aA), k + d ≤ 1000 → X.1 < 6 * (k + d) + 6 → CI m A → MI m A → OK k A → gG X 0 18 [.ref 0, .ref 1, .ref 53, .int (nI (6 * k))] [] m (fun r m' => ∃ v, r = some (.int v) ∧ (fun (v : Int32) (_ : aMem) => v = 1) v m') := by
  intro d
  induction d with
  | zero =>
    intro k m A hkd hd hC hM hO
    refine g_iload_n (pc' := 19) rfl rfl rfl ?_
    refine g_aload_n (pc' := 20) rfl rfl rfl ?_
    refine g_slen (pc' := 21) rfl rfl ?_
    refine g_bipush (pc' := 23) (v := 6) rfl rfl (by decide) ?_
    refine g_isub (pc' := 24) rfl rfl ?_
    refine g_icmp_gt (pc' := 27) (t := 796) rfl rfl rfl (fun c_24 => ?_) (fun c_24 => absurd (lw_6 hX (by omega) c_24) (by omega))
    refine g_iconst (pc' := 797) (v := 1) rfl rfl (by decide) ?_
    exact g_zreturn rfl rfl (by decide) (rfl)
  | succ d ih =>
    intro k m A hkd hd hC hM hO
    have nx : ∀ m' A', CI m' A' → MI m' A' → OK (k + 1) A' → gG X 0 790 [.ref 0, .ref 1, .ref 53, .int (nI (6 * k))] [] m' (fun r m' => ∃ v, r = some (.int v) ∧ (fun (v : Int32) (_ : aMem) => v = 1) v m') := by
      intro m' A' hC' hM' hO'
      refine g_iinc (pc' := 793) (v := nI (6 * (k + 1))) rfl rfl rfl (nI_add (6 * k) 6) rfl ?_
      refine g_goto (pc' := 18) rfl rfl ?_
      exact ih (k + 1) m' A' (by omega) (by omega) hC' hM' hO'
    refine g_iload_n (pc' := 19) rfl rfl rfl ?_
    refine g_aload_n (pc' := 20) rfl rfl rfl ?_
    refine g_slen (pc' := 21) rfl rfl ?_
    refine g_bipush (pc' := 23) (v := 6) rfl rfl (by decide) ?_
    refine g_isub (pc' := 24) rfl rfl ?_
    refine g_icmp_gt (pc' := 27) (t := 796) rfl rfl rfl (fun c_24 => ?_) (fun c_24 => ?_)
    · refine g_iconst (pc' := 797) (v := 1) rfl rfl (by decide) ?_
      exact g_zreturn rfl rfl (by decide) (rfl)
    · have h6 := lw_6 hX (by omega) c_24
      refine g_aload_n (pc' := 28) rfl rfl rfl ?_
      refine g_iload_n (pc' := 29) rfl rfl rfl ?_
      refine g_sld (pc' := 30) rfl rfl (k := 6 * k) (by omega) (by omega) rfl ?_
      refine g_bipush (pc' := 32) (v := 31) rfl rfl (by decide) ?_
      refine g_iand (pc' := 33) rfl rfl ?_
      obtain ⟨t, ht, et⟩ := and_31 (X.2 (6 * k))
      rw [et]
      by_cases hi : t ≤ 22
      · rcases (show t = 0 ∨ t = 1 ∨ t = 2 ∨ t = 3 ∨ t = 4 ∨ t = 5 ∨ t = 6 ∨ t = 7 ∨ t = 8 ∨ t = 9 ∨ t = 10 ∨ t = 11 ∨ t = 12 ∨ t = 13 ∨ t = 14 ∨ t = 15 ∨ t = 16 ∨ t = 17 ∨ t = 18 ∨ t = 19 ∨ t = 20 ∨ t = 21 ∨ t = 22 by omega) with rfl | rfl | rfl | rfl | rfl | rfl | rfl | rfl | rfl | rfl | rfl | rfl | rfl | rfl | rfl | rfl | rfl | rfl | rfl | rfl | rfl | rfl | rfl
        · refine g_tabI (pc' := 140) rfl (by decide) rfl rfl ?_
          exact lw_nut hX (by omega) h6 hC hM hO nx
        · refine g_tabI (pc' := 193) rfl (by decide) rfl rfl ?_
          exact lw_say hX (by omega) h6 hC hM hO nx
        · refine g_tabI (pc' := 216) rfl (by decide) rfl rfl ?_
          exact lw_wipe hX (by omega) h6 hC hM hO nx
        · refine g_tabI (pc' := 229) rfl (by decide) rfl rfl ?_
          exact lw_fault hX (by omega) h6 hC hM hO nx
        · refine g_tabI (pc' := 242) rfl (by decide) rfl rfl ?_
          exact lw_judge hX (by omega) h6 hC hM hO nx
        · refine g_tabI (pc' := 265) rfl (by decide) rfl rfl ?_
          exact lw_behind hX (by omega) h6 hC hM hO nx
        · refine g_tabI (pc' := 298) rfl (by decide) rfl rfl ?_
          exact lw_child hX (by omega) h6 hC hM hO nx
        · refine g_tabI (pc' := 331) rfl (by decide) rfl rfl ?_
          exact lw_street hX (by omega) h6 hC hM hO nx
        · refine g_tabI (pc' := 354) rfl (by decide) rfl rfl ?_
          exact lw_first hX (by omega) h6 hC hM hO nx
        · refine g_tabI (pc' := 377) rfl (by decide) rfl rfl ?_
          exact lw_done hX (by omega) h6 hC hM hO nx
        · refine g_tabI (pc' := 390) rfl (by decide) rfl rfl ?_
          exact lw_fight hX (by omega) h6 hC hM hO nx
        · refine g_tabI (pc' := 433) rfl (by decide) rfl rfl ?_
          exact lw_round hX (by omega) h6 hC hM hO nx
        · refine g_tabI (pc' := 466) rfl (by decide) rfl rfl ?_
          exact lw_cup hX (by omega) h6 hC hM hO nx
        · refine g_tabI (pc' := 489) rfl (by decide) rfl rfl ?_
          exact lw_harder hX (by omega) h6 hC hM hO nx
        · refine g_tabI (pc' := 522) rfl (by decide) rfl rfl ?_
          exact lw_forget hX (by omega) h6 hC hM hO nx
        · refine g_tabI (pc' := 535) rfl (by decide) rfl rfl ?_
          exact lw_orders hX (by omega) h6 hC hM hO nx
        · refine g_tabI (pc' := 558) rfl (by decide) rfl rfl ?_
          exact lw_ask hX (by omega) h6 hC hM hO nx
        · refine g_tabI (pc' := 581) rfl (by decide) rfl rfl ?_
          exact lw_row hX (by omega) h6 hC hM hO nx
        · refine g_tabI (pc' := 614) rfl (by decide) rfl rfl ?_
          exact lw_lot hX (by omega) h6 hC hM hO nx
        · refine g_tabI (pc' := 678) rfl (by decide) rfl rfl ?_
          exact lw_year hX (by omega) h6 hC hM hO nx
        · refine g_tabI (pc' := 721) rfl (by decide) rfl rfl ?_
          exact lw_image hX (by omega) h6 hC hM hO nx
        · refine g_tabI (pc' := 744) rfl (by decide) rfl rfl ?_
          exact lw_restore hX (by omega) h6 hC hM hO nx
        · refine g_tabI (pc' := 767) rfl (by decide) rfl rfl ?_
          exact lw_told hX (by omega) h6 hC hM hO nx
      · refine g_tabO (pc' := 790) rfl (Or.inr (by rw [nI_toInt (by omega)]; omega)) rfl ?_
        exact nx m A hC hM hO.up
