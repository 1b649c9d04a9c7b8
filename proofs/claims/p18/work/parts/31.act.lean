/-! ACT: one of the five changes, by two numbers of the script -/
def fIx (v : Int32) : Int32 := if lowF (v >>> ((24 : Int32) &&& 31)) 9 = 0 then lowF (v >>> ((4 : Int32) &&& 31)) 6 - 1 else lowF (v >>> ((4 : Int32) &&& 31)) 4
def nIx (v : Int32) : Int32 := if lowF (v >>> ((24 : Int32) &&& 31)) 9 = 0 then lowF (v >>> ((7 : Int32) &&& 31)) 34 - 1 else lowF (v >>> ((7 : Int32) &&& 31)) 5 * 6
def mkX (u : Int32) : Int64 := if lowF u 5 = 0 then 0 else bitsF (u >>> ((3 : Int32) &&& 31))
def vlX (u : Int32) : Int64 := if lowF u 11 = 1 then bitsF (u >>> ((9 : Int32) &&& 31)) else bitsF (u >>> ((9 : Int32) &&& 31)) &&& mkX u
def oX (v : Int32) : Int32 := if lowF (v >>> ((24 : Int32) &&& 31)) 9 = 0 then 1 else 0
def dX (v : Int32) : Int32 := if lowF (v >>> ((24 : Int32) &&& 31)) 9 = 0 then lowF (v >>> ((7 : Int32) &&& 31)) 9 - 1 else lowF (v >>> ((7 : Int32) &&& 31)) 7
def qX (v : Int32) : Int32 := if lowF (v >>> ((24 : Int32) &&& 31)) 9 = 0 then lowF (v >>> ((12 : Int32) &&& 31)) 1005 - 2 else lowF (v >>> ((12 : Int32) &&& 31)) 30
def cX (v : Int32) : Int32 := if lowF (v >>> ((24 : Int32) &&& 31)) 9 = 0 then lowF (v >>> ((7 : Int32) &&& 31)) 1005 - 2 else lowF (v >>> ((7 : Int32) &&& 31)) 60
def aX (v : Int32) : Int32 := if lowF (v >>> ((24 : Int32) &&& 31)) 9 = 0 then lowF (v >>> ((12 : Int32) &&& 31)) 4 - 1 else lowF (v >>> ((12 : Int32) &&& 31)) 2
def eX (v : Int32) : Int32 := if lowF (v >>> ((24 : Int32) &&& 31)) 9 = 0 then 8 else 7
theorem eX_0 (v : Int32) : ¬ eX v = 0 := by unfold eX; split <;> decide
/-- what act does -/
def actR (v u : Int32) (S : Ms) (r : Int32) (S2 : Ms) : Prop :=
  if lowF v 12 = 0 then remR (fIx v) (lowF (v >>> ((7 : Int32) &&& 31)) 11 - oX v) S r S2
  else if lowF v 12 = 1 then sdfR (fIx v) (dX v) S r S2
  else if lowF v 12 = 2 then sfqR (nIx v) (qX v) S r S2
  else if lowF v 12 = 3 ∨ lowF v 12 = 4 then cmpR (cX v) S r S2
  else addR (fIx v) (nIx v) (aX v) (mkX u) (vlX u) (lowF (v >>> ((15 : Int32) &&& 31)) (eX v)) S r S2
theorem actR_det {v u : Int32} {S S2 Sa : Ms} {r ra : Int32} (h : actR v u S r S2) (g : actR v u S ra Sa) : ra = r ∧ Sa = S2 := by
  unfold actR at h g
  split at h
  · rename_i c; rw [if_pos c] at g; exact StR.det h g
  · rename_i c; rw [if_neg c] at g
    split at h
    · rename_i c; rw [if_pos c] at g; exact StR.det h g
    · rename_i c; rw [if_neg c] at g
      split at h
      · rename_i c; rw [if_pos c] at g; exact StR.det h g
      · rename_i c; rw [if_neg c] at g
        split at h
        · rename_i c; rw [if_pos c] at g; exact StR.det h g
        · rename_i c; rw [if_neg c] at g; exact StR.det h g
theorem actR_9 {G : Gp} {ad : Nat → Nat} {L : List Nat} {w : Wn} {v u : Int32} {S S2 : Ms} {r : Int32} (hS : OS G ad L w S) (h : actR v u S r S2) (hr : r = -99999) : S2 = S := by
  unfold actR at h
  split at h
  · exact remR_9 hS h hr
  · split at h
    · exact sdfR_9 hS h hr
    · split at h
      · exact sfqR_9 hS h hr
      · split at h
        · exact cmpR_9 hS h hr
        · exact addR_9 hS h hr
set_option maxRecDepth 100000 in
set_option maxHeartbeats 16000000 in
theorem ct_act {l : Launch} {G : Gp} {L : List Nat} {w : Wn} {ad : Nat → Nat} {S : Ms} (hlt : l.stackTraces = false) (hS : OS G ad L w S) (v u : Int32) : CI l yL_act wsL_act (rmD 33 100 1000) G L w [.ref (ad 0), .int v, .int u] (StA G ad L w (actR v u S)) := by
  refine mk_i (cc := cL_act) (maxL := 10) [some (.ref (ad 0)), some (.int v), some (.int u), none, none, none, none, none, none, none] (by decide) rfl (Nat.le_of_ble_eq_true rfl) rfl ?_
  intro p e s m args below meth c A C hr hlk hnm
  have k17 : ∀ y : Int32, (y = 0 ↔ ¬ lowF (v >>> ((24 : Int32) &&& 31)) 9 = 0) → J p l e (rmD 33 100 1000) s m args below meth c G A s.heap 10 (MQ below (va_Qi (StA G ad L w (actR v u S)) (PB G A) A) args s (rmD 33 100 1000).cells (rmD 33 100 1000).slots A) L w 0 0 17 [some (.ref (ad 0)), some (.int v), some (.int u), none, none, none, none, none, none, none] [.int y] := fun y hy => by
    have k189 : lowF v 12 = 0 → ∀ z : Int32, z = oX v → J p l e (rmD 33 100 1000) s m args below meth c G A s.heap 10 (MQ below (va_Qi (StA G ad L w (actR v u S)) (PB G A) A) args s (rmD 33 100 1000).cells (rmD 33 100 1000).slots A) L w 0 0 189 [some (.ref (ad 0)), some (.int v), some (.int u), some (.int y), some (.int (fIx v)), some (.int (nIx v)), some (.long (mkX u)), none, some (.long (vlX u)), none] [.int z, .int (lowF (v >>> ((7 : Int32) &&& 31)) 11), .int (fIx v), .ref (ad 0)] := fun h0 z hz => by
      subst hz
      refine j_isub (pc := 189) C dL_act_189 ?_
      refine jSW_i (pc := 190) (k2 := 100) (n2 := 1000) (np := 3) (As := [.ref (ad 0), .int (fIx v), .int (lowF (v >>> ((7 : Int32) &&& 31)) 11 - oX v)]) C (cw_remove hlt hS (fIx v) (lowF (v >>> ((7 : Int32) &&& 31)) 11 - oX v)) gL_act_L_remove rfl (by decide +kernel) ⟨by decide, by decide⟩ rfl rfl (Nat.le_of_ble_eq_true rfl) dL_act_190 (by decide) (by decide) ⟨by decide, by decide⟩ (fun r9 L9 w9 h9 => ?_)
      exact ret_i C rfl hr hlk dL_act_193 (by obtain ⟨Sx, q1, q2, q3⟩ := h9; exact ⟨Sx, q1, q2, by unfold actR; rw [if_pos h0]; exact q3⟩) (by decide) (by decide)
    have k168 : lowF v 12 = 0 → J p l e (rmD 33 100 1000) s m args below meth c G A s.heap 10 (MQ below (va_Qi (StA G ad L w (actR v u S)) (PB G A) A) args s (rmD 33 100 1000).cells (rmD 33 100 1000).slots A) L w 0 0 168 [some (.ref (ad 0)), some (.int v), some (.int u), some (.int y), some (.int (fIx v)), some (.int (nIx v)), some (.long (mkX u)), none, some (.long (vlX u)), none] [] := fun h0 => by
      refine j_aload_n (pc := 168) C rfl dL_act_168 rfl ?_
      refine j_iload (pc := 169) C dL_act_169 rfl ?_
      refine j_iload_n (pc := 171) C rfl dL_act_171 rfl ?_
      refine j_bipush (pc := 172) (v := 7) C dL_act_172 (by decide) ?_
      refine j_ishr (pc := 174) C dL_act_174 ?_
      refine j_bipush (pc := 175) (v := 11) C dL_act_175 (by decide) ?_
      refine jS_i0 (pc := 177) (k2 := 0) (n2 := 0) (np := 2) (As := [.int (v >>> ((7 : Int32) &&& 31)), .int 11]) C (ct_low (v >>> ((7 : Int32) &&& 31)) 11 (by decide)) gL_act_L_low rfl (by decide +kernel) ⟨by decide, by decide⟩ rfl rfl (Nat.le_of_ble_eq_true rfl) dL_act_177 (by decide) (by decide) ⟨by decide, by decide⟩ (fun v177 hv177 => ?_)
      subst hv177
      refine j_iload_n (pc := 180) C rfl dL_act_180 rfl ?_
      refine j_if_eq (pc := 181) (tgt := 188) C dL_act_181 (by decide) (fun c181 => ?_) (fun c181 => ?_)
      · have o9 : ¬ lowF (v >>> ((24 : Int32) &&& 31)) 9 = 0 := hy.mp c181
        refine j_iconst (pc := 188) (v := 0) C dL_act_188 (by decide) ?_
        exact k189 h0 _ (by unfold oX; first | rw [if_pos o9] | rw [if_neg o9])
      · have o9 : lowF (v >>> ((24 : Int32) &&& 31)) 9 = 0 := Decidable.not_not.mp (fun q => c181 (hy.mpr q))
        refine j_iconst (pc := 184) (v := 1) C dL_act_184 (by decide) ?_
        refine j_goto (pc := 185) (tgt := 189) C dL_act_185 (by decide) ?_
        exact k189 h0 _ (by unfold oX; first | rw [if_pos o9] | rw [if_neg o9])
    have k224 : ¬ lowF v 12 = 0 → lowF v 12 = 1 → ∀ z : Int32, z = dX v → J p l e (rmD 33 100 1000) s m args below meth c G A s.heap 10 (MQ below (va_Qi (StA G ad L w (actR v u S)) (PB G A) A) args s (rmD 33 100 1000).cells (rmD 33 100 1000).slots A) L w 0 0 224 [some (.ref (ad 0)), some (.int v), some (.int u), some (.int y), some (.int (fIx v)), some (.int (nIx v)), some (.long (mkX u)), none, some (.long (vlX u)), none] [.int z, .int (fIx v), .ref (ad 0)] := fun h0 h1 z hz => by
      subst hz
      refine jSW_i (pc := 224) (k2 := 100) (n2 := 1000) (np := 3) (As := [.ref (ad 0), .int (fIx v), .int (dX v)]) C (cw_setDefault hlt hS (fIx v) (dX v)) gL_act_L_setDefault rfl (by decide +kernel) ⟨by decide, by decide⟩ rfl rfl (Nat.le_of_ble_eq_true rfl) dL_act_224 (by decide) (by decide) ⟨by decide, by decide⟩ (fun r9 L9 w9 h9 => ?_)
      exact ret_i C rfl hr hlk dL_act_227 (by obtain ⟨Sx, q1, q2, q3⟩ := h9; exact ⟨Sx, q1, q2, by unfold actR; rw [if_neg h0, if_pos h1]; exact q3⟩) (by decide) (by decide)
    have k194 : ¬ lowF v 12 = 0 → lowF v 12 = 1 → J p l e (rmD 33 100 1000) s m args below meth c G A s.heap 10 (MQ below (va_Qi (StA G ad L w (actR v u S)) (PB G A) A) args s (rmD 33 100 1000).cells (rmD 33 100 1000).slots A) L w 0 0 194 [some (.ref (ad 0)), some (.int v), some (.int u), some (.int y), some (.int (fIx v)), some (.int (nIx v)), some (.long (mkX u)), none, some (.long (vlX u)), none] [] := fun h0 h1 => by
      refine j_aload_n (pc := 194) C rfl dL_act_194 rfl ?_
      refine j_iload (pc := 195) C dL_act_195 rfl ?_
      refine j_iload_n (pc := 197) C rfl dL_act_197 rfl ?_
      refine j_if_eq (pc := 198) (tgt := 215) C dL_act_198 (by decide) (fun c198 => ?_) (fun c198 => ?_)
      · have o9 : ¬ lowF (v >>> ((24 : Int32) &&& 31)) 9 = 0 := hy.mp c198
        refine j_iload_n (pc := 215) C rfl dL_act_215 rfl ?_
        refine j_bipush (pc := 216) (v := 7) C dL_act_216 (by decide) ?_
        refine j_ishr (pc := 218) C dL_act_218 ?_
        refine j_bipush (pc := 219) (v := 7) C dL_act_219 (by decide) ?_
        refine jS_i0 (pc := 221) (k2 := 0) (n2 := 0) (np := 2) (As := [.int (v >>> ((7 : Int32) &&& 31)), .int 7]) C (ct_low (v >>> ((7 : Int32) &&& 31)) 7 (by decide)) gL_act_L_low rfl (by decide +kernel) ⟨by decide, by decide⟩ rfl rfl (Nat.le_of_ble_eq_true rfl) dL_act_221 (by decide) (by decide) ⟨by decide, by decide⟩ (fun v221 hv221 => ?_)
        subst hv221
        exact k224 h0 h1 _ (by unfold dX; first | rw [if_pos o9] | rw [if_neg o9])
      · have o9 : lowF (v >>> ((24 : Int32) &&& 31)) 9 = 0 := Decidable.not_not.mp (fun q => c198 (hy.mpr q))
        refine j_iload_n (pc := 201) C rfl dL_act_201 rfl ?_
        refine j_bipush (pc := 202) (v := 7) C dL_act_202 (by decide) ?_
        refine j_ishr (pc := 204) C dL_act_204 ?_
        refine j_bipush (pc := 205) (v := 9) C dL_act_205 (by decide) ?_
        refine jS_i0 (pc := 207) (k2 := 0) (n2 := 0) (np := 2) (As := [.int (v >>> ((7 : Int32) &&& 31)), .int 9]) C (ct_low (v >>> ((7 : Int32) &&& 31)) 9 (by decide)) gL_act_L_low rfl (by decide +kernel) ⟨by decide, by decide⟩ rfl rfl (Nat.le_of_ble_eq_true rfl) dL_act_207 (by decide) (by decide) ⟨by decide, by decide⟩ (fun v207 hv207 => ?_)
        subst hv207
        refine j_iconst (pc := 210) (v := 1) C dL_act_210 (by decide) ?_
        refine j_isub (pc := 211) C dL_act_211 ?_
        refine j_goto (pc := 212) (tgt := 224) C dL_act_212 (by decide) ?_
        exact k224 h0 h1 _ (by unfold dX; first | rw [if_pos o9] | rw [if_neg o9])
    have k259 : ¬ lowF v 12 = 0 → ¬ lowF v 12 = 1 → lowF v 12 = 2 → ∀ z : Int32, z = qX v → J p l e (rmD 33 100 1000) s m args below meth c G A s.heap 10 (MQ below (va_Qi (StA G ad L w (actR v u S)) (PB G A) A) args s (rmD 33 100 1000).cells (rmD 33 100 1000).slots A) L w 0 0 259 [some (.ref (ad 0)), some (.int v), some (.int u), some (.int y), some (.int (fIx v)), some (.int (nIx v)), some (.long (mkX u)), none, some (.long (vlX u)), none] [.int z, .int (nIx v), .ref (ad 0)] := fun h0 h1 h2 z hz => by
      subst hz
      refine jSW_i (pc := 259) (k2 := 100) (n2 := 1000) (np := 3) (As := [.ref (ad 0), .int (nIx v), .int (qX v)]) C (cw_setFrequency hlt hS (nIx v) (qX v)) gL_act_L_setFrequency rfl (by decide +kernel) ⟨by decide, by decide⟩ rfl rfl (Nat.le_of_ble_eq_true rfl) dL_act_259 (by decide) (by decide) ⟨by decide, by decide⟩ (fun r9 L9 w9 h9 => ?_)
      exact ret_i C rfl hr hlk dL_act_262 (by obtain ⟨Sx, q1, q2, q3⟩ := h9; exact ⟨Sx, q1, q2, by unfold actR; rw [if_neg h0, if_neg h1, if_pos h2]; exact q3⟩) (by decide) (by decide)
    have k228 : ¬ lowF v 12 = 0 → ¬ lowF v 12 = 1 → lowF v 12 = 2 → J p l e (rmD 33 100 1000) s m args below meth c G A s.heap 10 (MQ below (va_Qi (StA G ad L w (actR v u S)) (PB G A) A) args s (rmD 33 100 1000).cells (rmD 33 100 1000).slots A) L w 0 0 228 [some (.ref (ad 0)), some (.int v), some (.int u), some (.int y), some (.int (fIx v)), some (.int (nIx v)), some (.long (mkX u)), none, some (.long (vlX u)), none] [] := fun h0 h1 h2 => by
      refine j_aload_n (pc := 228) C rfl dL_act_228 rfl ?_
      refine j_iload (pc := 229) C dL_act_229 rfl ?_
      refine j_iload_n (pc := 231) C rfl dL_act_231 rfl ?_
      refine j_if_eq (pc := 232) (tgt := 250) C dL_act_232 (by decide) (fun c232 => ?_) (fun c232 => ?_)
      · have o9 : ¬ lowF (v >>> ((24 : Int32) &&& 31)) 9 = 0 := hy.mp c232
        refine j_iload_n (pc := 250) C rfl dL_act_250 rfl ?_
        refine j_bipush (pc := 251) (v := 12) C dL_act_251 (by decide) ?_
        refine j_ishr (pc := 253) C dL_act_253 ?_
        refine j_bipush (pc := 254) (v := 30) C dL_act_254 (by decide) ?_
        refine jS_i0 (pc := 256) (k2 := 0) (n2 := 0) (np := 2) (As := [.int (v >>> ((12 : Int32) &&& 31)), .int 30]) C (ct_low (v >>> ((12 : Int32) &&& 31)) 30 (by decide)) gL_act_L_low rfl (by decide +kernel) ⟨by decide, by decide⟩ rfl rfl (Nat.le_of_ble_eq_true rfl) dL_act_256 (by decide) (by decide) ⟨by decide, by decide⟩ (fun v256 hv256 => ?_)
        subst hv256
        exact k259 h0 h1 h2 _ (by unfold qX; first | rw [if_pos o9] | rw [if_neg o9])
      · have o9 : lowF (v >>> ((24 : Int32) &&& 31)) 9 = 0 := Decidable.not_not.mp (fun q => c232 (hy.mpr q))
        refine j_iload_n (pc := 235) C rfl dL_act_235 rfl ?_
        refine j_bipush (pc := 236) (v := 12) C dL_act_236 (by decide) ?_
        refine j_ishr (pc := 238) C dL_act_238 ?_
        refine j_sipush (pc := 239) (v := 1005) C dL_act_239 (by decide) ?_
        refine jS_i0 (pc := 242) (k2 := 0) (n2 := 0) (np := 2) (As := [.int (v >>> ((12 : Int32) &&& 31)), .int 1005]) C (ct_low (v >>> ((12 : Int32) &&& 31)) 1005 (by decide)) gL_act_L_low rfl (by decide +kernel) ⟨by decide, by decide⟩ rfl rfl (Nat.le_of_ble_eq_true rfl) dL_act_242 (by decide) (by decide) ⟨by decide, by decide⟩ (fun v242 hv242 => ?_)
        subst hv242
        refine j_iconst (pc := 245) (v := 2) C dL_act_245 (by decide) ?_
        refine j_isub (pc := 246) C dL_act_246 ?_
        refine j_goto (pc := 247) (tgt := 259) C dL_act_247 (by decide) ?_
        exact k259 h0 h1 h2 _ (by unfold qX; first | rw [if_pos o9] | rw [if_neg o9])
    have k292 : ¬ lowF v 12 = 0 → ¬ lowF v 12 = 1 → ¬ lowF v 12 = 2 → (lowF v 12 = 3 ∨ lowF v 12 = 4) → ∀ z : Int32, z = cX v → J p l e (rmD 33 100 1000) s m args below meth c G A s.heap 10 (MQ below (va_Qi (StA G ad L w (actR v u S)) (PB G A) A) args s (rmD 33 100 1000).cells (rmD 33 100 1000).slots A) L w 0 0 292 [some (.ref (ad 0)), some (.int v), some (.int u), some (.int y), some (.int (fIx v)), some (.int (nIx v)), some (.long (mkX u)), none, some (.long (vlX u)), none] [.int z, .ref (ad 0)] := fun h0 h1 h2 h3 z hz => by
      subst hz
      refine jSW_i (pc := 292) (k2 := 100) (n2 := 1000) (np := 2) (As := [.ref (ad 0), .int (cX v)]) C (cw_compile hlt hS (cX v)) gL_act_L_compile rfl (by decide +kernel) ⟨by decide, by decide⟩ rfl rfl (Nat.le_of_ble_eq_true rfl) dL_act_292 (by decide) (by decide) ⟨by decide, by decide⟩ (fun r9 L9 w9 h9 => ?_)
      exact ret_i C rfl hr hlk dL_act_295 (by obtain ⟨Sx, q1, q2, q3⟩ := h9; exact ⟨Sx, q1, q2, by unfold actR; rw [if_neg h0, if_neg h1, if_neg h2, if_pos h3]; exact q3⟩) (by decide) (by decide)
    have k263 : ¬ lowF v 12 = 0 → ¬ lowF v 12 = 1 → ¬ lowF v 12 = 2 → (lowF v 12 = 3 ∨ lowF v 12 = 4) → J p l e (rmD 33 100 1000) s m args below meth c G A s.heap 10 (MQ below (va_Qi (StA G ad L w (actR v u S)) (PB G A) A) args s (rmD 33 100 1000).cells (rmD 33 100 1000).slots A) L w 0 0 263 [some (.ref (ad 0)), some (.int v), some (.int u), some (.int y), some (.int (fIx v)), some (.int (nIx v)), some (.long (mkX u)), none, some (.long (vlX u)), none] [] := fun h0 h1 h2 h3 => by
      refine j_aload_n (pc := 263) C rfl dL_act_263 rfl ?_
      refine j_iload_n (pc := 264) C rfl dL_act_264 rfl ?_
      refine j_if_eq (pc := 265) (tgt := 283) C dL_act_265 (by decide) (fun c265 => ?_) (fun c265 => ?_)
      · have o9 : ¬ lowF (v >>> ((24 : Int32) &&& 31)) 9 = 0 := hy.mp c265
        refine j_iload_n (pc := 283) C rfl dL_act_283 rfl ?_
        refine j_bipush (pc := 284) (v := 7) C dL_act_284 (by decide) ?_
        refine j_ishr (pc := 286) C dL_act_286 ?_
        refine j_bipush (pc := 287) (v := 60) C dL_act_287 (by decide) ?_
        refine jS_i0 (pc := 289) (k2 := 0) (n2 := 0) (np := 2) (As := [.int (v >>> ((7 : Int32) &&& 31)), .int 60]) C (ct_low (v >>> ((7 : Int32) &&& 31)) 60 (by decide)) gL_act_L_low rfl (by decide +kernel) ⟨by decide, by decide⟩ rfl rfl (Nat.le_of_ble_eq_true rfl) dL_act_289 (by decide) (by decide) ⟨by decide, by decide⟩ (fun v289 hv289 => ?_)
        subst hv289
        exact k292 h0 h1 h2 h3 _ (by unfold cX; first | rw [if_pos o9] | rw [if_neg o9])
      · have o9 : lowF (v >>> ((24 : Int32) &&& 31)) 9 = 0 := Decidable.not_not.mp (fun q => c265 (hy.mpr q))
        refine j_iload_n (pc := 268) C rfl dL_act_268 rfl ?_
        refine j_bipush (pc := 269) (v := 7) C dL_act_269 (by decide) ?_
        refine j_ishr (pc := 271) C dL_act_271 ?_
        refine j_sipush (pc := 272) (v := 1005) C dL_act_272 (by decide) ?_
        refine jS_i0 (pc := 275) (k2 := 0) (n2 := 0) (np := 2) (As := [.int (v >>> ((7 : Int32) &&& 31)), .int 1005]) C (ct_low (v >>> ((7 : Int32) &&& 31)) 1005 (by decide)) gL_act_L_low rfl (by decide +kernel) ⟨by decide, by decide⟩ rfl rfl (Nat.le_of_ble_eq_true rfl) dL_act_275 (by decide) (by decide) ⟨by decide, by decide⟩ (fun v275 hv275 => ?_)
        subst hv275
        refine j_iconst (pc := 278) (v := 2) C dL_act_278 (by decide) ?_
        refine j_isub (pc := 279) C dL_act_279 ?_
        refine j_goto (pc := 280) (tgt := 292) C dL_act_280 (by decide) ?_
        exact k292 h0 h1 h2 h3 _ (by unfold cX; first | rw [if_pos o9] | rw [if_neg o9])
    have k345 : ¬ lowF v 12 = 0 → ¬ lowF v 12 = 1 → ¬ lowF v 12 = 2 → ¬ (lowF v 12 = 3 ∨ lowF v 12 = 4) → ∀ z : Int32, z = eX v → J p l e (rmD 33 100 1000) s m args below meth c G A s.heap 10 (MQ below (va_Qi (StA G ad L w (actR v u S)) (PB G A) A) args s (rmD 33 100 1000).cells (rmD 33 100 1000).slots A) L w 0 0 345 [some (.ref (ad 0)), some (.int v), some (.int u), some (.int y), some (.int (fIx v)), some (.int (nIx v)), some (.long (mkX u)), none, some (.long (vlX u)), none] [.int z, .int (v >>> ((15 : Int32) &&& 31)), .long (vlX u), .long (mkX u), .int (aX v), .int (nIx v), .int (fIx v), .ref (ad 0)] := fun h0 h1 h2 h3 z hz => by
      subst hz
      refine jS_i0 (pc := 345) (k2 := 0) (n2 := 0) (np := 2) (As := [.int (v >>> ((15 : Int32) &&& 31)), .int (eX v)]) C (ct_low (v >>> ((15 : Int32) &&& 31)) (eX v) (eX_0 v)) gL_act_L_low rfl (by decide +kernel) ⟨by decide, by decide⟩ rfl rfl (Nat.le_of_ble_eq_true rfl) dL_act_345 (by decide) (by decide) ⟨by decide, by decide⟩ (fun v345 hv345 => ?_)
      subst hv345
      refine jSW_i (pc := 348) (k2 := 100) (n2 := 1000) (np := 7) (As := [.ref (ad 0), .int (fIx v), .int (nIx v), .int (aX v), .long (mkX u), .long (vlX u), .int (lowF (v >>> ((15 : Int32) &&& 31)) (eX v))]) C (cw_add hlt hS (fIx v) (nIx v) (aX v) (mkX u) (vlX u) (lowF (v >>> ((15 : Int32) &&& 31)) (eX v))) gL_act_L_add rfl (by decide +kernel) ⟨by decide, by decide⟩ rfl rfl (Nat.le_of_ble_eq_true rfl) dL_act_348 (by decide) (by decide) ⟨by decide, by decide⟩ (fun r9 L9 w9 h9 => ?_)
      exact ret_i C rfl hr hlk dL_act_351 (by obtain ⟨Sx, q1, q2, q3⟩ := h9; exact ⟨Sx, q1, q2, by unfold actR; rw [if_neg h0, if_neg h1, if_neg h2, if_neg h3]; exact q3⟩) (by decide) (by decide)
    have k326 : ¬ lowF v 12 = 0 → ¬ lowF v 12 = 1 → ¬ lowF v 12 = 2 → ¬ (lowF v 12 = 3 ∨ lowF v 12 = 4) → ∀ z : Int32, z = aX v → J p l e (rmD 33 100 1000) s m args below meth c G A s.heap 10 (MQ below (va_Qi (StA G ad L w (actR v u S)) (PB G A) A) args s (rmD 33 100 1000).cells (rmD 33 100 1000).slots A) L w 0 0 326 [some (.ref (ad 0)), some (.int v), some (.int u), some (.int y), some (.int (fIx v)), some (.int (nIx v)), some (.long (mkX u)), none, some (.long (vlX u)), none] [.int z, .int (nIx v), .int (fIx v), .ref (ad 0)] := fun h0 h1 h2 h3 z hz => by
      subst hz
      refine j_lload (pc := 326) C dL_act_326 rfl ?_
      refine j_lload (pc := 328) C dL_act_328 rfl ?_
      refine j_iload_n (pc := 330) C rfl dL_act_330 rfl ?_
      refine j_bipush (pc := 331) (v := 15) C dL_act_331 (by decide) ?_
      refine j_ishr (pc := 333) C dL_act_333 ?_
      refine j_iload_n (pc := 334) C rfl dL_act_334 rfl ?_
      refine j_if_eq (pc := 335) (tgt := 343) C dL_act_335 (by decide) (fun c335 => ?_) (fun c335 => ?_)
      · have o9 : ¬ lowF (v >>> ((24 : Int32) &&& 31)) 9 = 0 := hy.mp c335
        refine j_bipush (pc := 343) (v := 7) C dL_act_343 (by decide) ?_
        exact k345 h0 h1 h2 h3 _ (by unfold eX; first | rw [if_pos o9] | rw [if_neg o9])
      · have o9 : lowF (v >>> ((24 : Int32) &&& 31)) 9 = 0 := Decidable.not_not.mp (fun q => c335 (hy.mpr q))
        refine j_bipush (pc := 338) (v := 8) C dL_act_338 (by decide) ?_
        refine j_goto (pc := 340) (tgt := 345) C dL_act_340 (by decide) ?_
        exact k345 h0 h1 h2 h3 _ (by unfold eX; first | rw [if_pos o9] | rw [if_neg o9])
    have k296 : ¬ lowF v 12 = 0 → ¬ lowF v 12 = 1 → ¬ lowF v 12 = 2 → ¬ (lowF v 12 = 3 ∨ lowF v 12 = 4) → J p l e (rmD 33 100 1000) s m args below meth c G A s.heap 10 (MQ below (va_Qi (StA G ad L w (actR v u S)) (PB G A) A) args s (rmD 33 100 1000).cells (rmD 33 100 1000).slots A) L w 0 0 296 [some (.ref (ad 0)), some (.int v), some (.int u), some (.int y), some (.int (fIx v)), some (.int (nIx v)), some (.long (mkX u)), none, some (.long (vlX u)), none] [] := fun h0 h1 h2 h3 => by
      refine j_aload_n (pc := 296) C rfl dL_act_296 rfl ?_
      refine j_iload (pc := 297) C dL_act_297 rfl ?_
      refine j_iload (pc := 299) C dL_act_299 rfl ?_
      refine j_iload_n (pc := 301) C rfl dL_act_301 rfl ?_
      refine j_if_eq (pc := 302) (tgt := 318) C dL_act_302 (by decide) (fun c302 => ?_) (fun c302 => ?_)
      · have o9 : ¬ lowF (v >>> ((24 : Int32) &&& 31)) 9 = 0 := hy.mp c302
        refine j_iload_n (pc := 318) C rfl dL_act_318 rfl ?_
        refine j_bipush (pc := 319) (v := 12) C dL_act_319 (by decide) ?_
        refine j_ishr (pc := 321) C dL_act_321 ?_
        refine j_iconst (pc := 322) (v := 2) C dL_act_322 (by decide) ?_
        refine jS_i0 (pc := 323) (k2 := 0) (n2 := 0) (np := 2) (As := [.int (v >>> ((12 : Int32) &&& 31)), .int 2]) C (ct_low (v >>> ((12 : Int32) &&& 31)) 2 (by decide)) gL_act_L_low rfl (by decide +kernel) ⟨by decide, by decide⟩ rfl rfl (Nat.le_of_ble_eq_true rfl) dL_act_323 (by decide) (by decide) ⟨by decide, by decide⟩ (fun v323 hv323 => ?_)
        subst hv323
        exact k326 h0 h1 h2 h3 _ (by unfold aX; first | rw [if_pos o9] | rw [if_neg o9])
      · have o9 : lowF (v >>> ((24 : Int32) &&& 31)) 9 = 0 := Decidable.not_not.mp (fun q => c302 (hy.mpr q))
        refine j_iload_n (pc := 305) C rfl dL_act_305 rfl ?_
        refine j_bipush (pc := 306) (v := 12) C dL_act_306 (by decide) ?_
        refine j_ishr (pc := 308) C dL_act_308 ?_
        refine j_iconst (pc := 309) (v := 4) C dL_act_309 (by decide) ?_
        refine jS_i0 (pc := 310) (k2 := 0) (n2 := 0) (np := 2) (As := [.int (v >>> ((12 : Int32) &&& 31)), .int 4]) C (ct_low (v >>> ((12 : Int32) &&& 31)) 4 (by decide)) gL_act_L_low rfl (by decide +kernel) ⟨by decide, by decide⟩ rfl rfl (Nat.le_of_ble_eq_true rfl) dL_act_310 (by decide) (by decide) ⟨by decide, by decide⟩ (fun v310 hv310 => ?_)
        subst hv310
        refine j_iconst (pc := 313) (v := 1) C dL_act_313 (by decide) ?_
        refine j_isub (pc := 314) C dL_act_314 ?_
        refine j_goto (pc := 315) (tgt := 326) C dL_act_315 (by decide) ?_
        exact k326 h0 h1 h2 h3 _ (by unfold aX; first | rw [if_pos o9] | rw [if_neg o9])
    have k125 : ∀ z : Int64, z = vlX u → J p l e (rmD 33 100 1000) s m args below meth c G A s.heap 10 (MQ below (va_Qi (StA G ad L w (actR v u S)) (PB G A) A) args s (rmD 33 100 1000).cells (rmD 33 100 1000).slots A) L w 0 0 125 [some (.ref (ad 0)), some (.int v), some (.int u), some (.int y), some (.int (fIx v)), some (.int (nIx v)), some (.long (mkX u)), none, none, none] [.long z] := fun z hz => by
      subst hz
      refine j_lstore_8 (pc := 125) C dL_act_125 (by decide) rfl ?_
      refine j_iload_n (pc := 127) C rfl dL_act_127 rfl ?_
      refine j_bipush (pc := 128) (v := 12) C dL_act_128 (by decide) ?_
      refine jS_i0 (pc := 130) (k2 := 0) (n2 := 0) (np := 2) (As := [.int (v), .int 12]) C (ct_low (v) 12 (by decide)) gL_act_L_low rfl (by decide +kernel) ⟨by decide, by decide⟩ rfl rfl (Nat.le_of_ble_eq_true rfl) dL_act_130 (by decide) (by decide) ⟨by decide, by decide⟩ (fun v130 hv130 => ?_)
      subst hv130
      refine j_top (fun y9 ey => ?_)
      have en : ∀ z : Int32, y9.toInt ≠ z.toInt → ¬ lowF v 12 = z := fun z h q => h (by rw [ey, q])
      have ee : ∀ z : Int32, y9.toInt = z.toInt → lowF v 12 = z := fun z h => by rw [← ey]; exact Int32.toInt_inj.mp h
      rcases (show y9.toInt < 0 ∨ 4 < y9.toInt ∨ y9.toInt = 0 ∨ y9.toInt = 1 ∨ y9.toInt = 2 ∨ y9.toInt = 3 ∨ y9.toInt = 4 by omega) with h | h | h | h | h | h | h
      · refine j_tblOut (pc := 133) (tgt := 296) C dL_act_133 (Or.inl h) (by decide) ?_
        exact k296 (en 0 (by rw [show (0 : Int32).toInt = 0 from rfl]; omega)) (en 1 (by rw [show (1 : Int32).toInt = 1 from rfl]; omega)) (en 2 (by rw [show (2 : Int32).toInt = 2 from rfl]; omega)) (fun q => q.elim (en 3 (by rw [show (3 : Int32).toInt = 3 from rfl]; omega)) (en 4 (by rw [show (4 : Int32).toInt = 4 from rfl]; omega)))
      · refine j_tblOut (pc := 133) (tgt := 296) C dL_act_133 (Or.inr h) (by decide) ?_
        exact k296 (en 0 (by rw [show (0 : Int32).toInt = 0 from rfl]; omega)) (en 1 (by rw [show (1 : Int32).toInt = 1 from rfl]; omega)) (en 2 (by rw [show (2 : Int32).toInt = 2 from rfl]; omega)) (fun q => q.elim (en 3 (by rw [show (3 : Int32).toInt = 3 from rfl]; omega)) (en 4 (by rw [show (4 : Int32).toInt = 4 from rfl]; omega)))
      · refine j_tblIn (pc := 133) (off := 35) (tgt := 168) C dL_act_133 (by omega) (by omega) (by rw [h]; rfl) (by decide) ?_
        exact k168  (ee 0 (by rw [h]; rfl))
      · refine j_tblIn (pc := 133) (off := 61) (tgt := 194) C dL_act_133 (by omega) (by omega) (by rw [h]; rfl) (by decide) ?_
        exact k194 (en 0 (by rw [show (0 : Int32).toInt = 0 from rfl]; omega)) (ee 1 (by rw [h]; rfl))
      · refine j_tblIn (pc := 133) (off := 95) (tgt := 228) C dL_act_133 (by omega) (by omega) (by rw [h]; rfl) (by decide) ?_
        exact k228 (en 0 (by rw [show (0 : Int32).toInt = 0 from rfl]; omega)) (en 1 (by rw [show (1 : Int32).toInt = 1 from rfl]; omega)) (ee 2 (by rw [h]; rfl))
      · refine j_tblIn (pc := 133) (off := 130) (tgt := 263) C dL_act_133 (by omega) (by omega) (by rw [h]; rfl) (by decide) ?_
        exact k263 (en 0 (by rw [show (0 : Int32).toInt = 0 from rfl]; omega)) (en 1 (by rw [show (1 : Int32).toInt = 1 from rfl]; omega)) (en 2 (by rw [show (2 : Int32).toInt = 2 from rfl]; omega)) (Or.inl (ee 3 (by rw [h]; rfl)))
      · refine j_tblIn (pc := 133) (off := 130) (tgt := 263) C dL_act_133 (by omega) (by omega) (by rw [h]; rfl) (by decide) ?_
        exact k263 (en 0 (by rw [show (0 : Int32).toInt = 0 from rfl]; omega)) (en 1 (by rw [show (1 : Int32).toInt = 1 from rfl]; omega)) (en 2 (by rw [show (2 : Int32).toInt = 2 from rfl]; omega)) (Or.inr (ee 4 (by rw [h]; rfl)))
    have k93 : ∀ z : Int64, z = mkX u → J p l e (rmD 33 100 1000) s m args below meth c G A s.heap 10 (MQ below (va_Qi (StA G ad L w (actR v u S)) (PB G A) A) args s (rmD 33 100 1000).cells (rmD 33 100 1000).slots A) L w 0 0 93 [some (.ref (ad 0)), some (.int v), some (.int u), some (.int y), some (.int (fIx v)), some (.int (nIx v)), none, none, none, none] [.long z] := fun z hz => by
      subst hz
      refine j_lstore_6 (pc := 93) C dL_act_93 (by decide) rfl ?_
      refine j_iload_n (pc := 95) C rfl dL_act_95 rfl ?_
      refine j_bipush (pc := 96) (v := 11) C dL_act_96 (by decide) ?_
      refine jS_i0 (pc := 98) (k2 := 0) (n2 := 0) (np := 2) (As := [.int (u), .int 11]) C (ct_low (u) 11 (by decide)) gL_act_L_low rfl (by decide +kernel) ⟨by decide, by decide⟩ rfl rfl (Nat.le_of_ble_eq_true rfl) dL_act_98 (by decide) (by decide) ⟨by decide, by decide⟩ (fun v98 hv98 => ?_)
      subst hv98
      refine j_iconst (pc := 101) (v := 1) C dL_act_101 (by decide) ?_
      refine j_icmp_ne (pc := 102) (tgt := 115) C dL_act_102 (by decide) (fun c102 => ?_) (fun c102 => ?_)
      · have o9 : ¬ lowF u 11 = 1 := c102
        refine j_iload_n (pc := 115) C rfl dL_act_115 rfl ?_
        refine j_bipush (pc := 116) (v := 9) C dL_act_116 (by decide) ?_
        refine j_ishr (pc := 118) C dL_act_118 ?_
        refine jS_l0 (pc := 119) (k2 := 0) (n2 := 0) (np := 1) (As := [.int (u >>> ((9 : Int32) &&& 31))]) C (ct_bits (u >>> ((9 : Int32) &&& 31))) gL_act_L_bits rfl (by decide +kernel) ⟨by decide, by decide⟩ rfl rfl (Nat.le_of_ble_eq_true rfl) dL_act_119 (by decide) (by decide) ⟨by decide, by decide⟩ (fun v119 hv119 => ?_)
        subst hv119
        refine j_lload (pc := 122) C dL_act_122 rfl ?_
        refine j_land (pc := 124) C dL_act_124 ?_
        exact k125 _ (by unfold vlX; first | rw [if_pos o9] | rw [if_neg o9])
      · have o9 : lowF u 11 = 1 := c102
        refine j_iload_n (pc := 105) C rfl dL_act_105 rfl ?_
        refine j_bipush (pc := 106) (v := 9) C dL_act_106 (by decide) ?_
        refine j_ishr (pc := 108) C dL_act_108 ?_
        refine jS_l0 (pc := 109) (k2 := 0) (n2 := 0) (np := 1) (As := [.int (u >>> ((9 : Int32) &&& 31))]) C (ct_bits (u >>> ((9 : Int32) &&& 31))) gL_act_L_bits rfl (by decide +kernel) ⟨by decide, by decide⟩ rfl rfl (Nat.le_of_ble_eq_true rfl) dL_act_109 (by decide) (by decide) ⟨by decide, by decide⟩ (fun v109 hv109 => ?_)
        subst hv109
        refine j_goto (pc := 112) (tgt := 125) C dL_act_112 (by decide) ?_
        exact k125 _ (by unfold vlX; first | rw [if_pos o9] | rw [if_neg o9])
    have k73 : ∀ z : Int32, z = nIx v → J p l e (rmD 33 100 1000) s m args below meth c G A s.heap 10 (MQ below (va_Qi (StA G ad L w (actR v u S)) (PB G A) A) args s (rmD 33 100 1000).cells (rmD 33 100 1000).slots A) L w 0 0 73 [some (.ref (ad 0)), some (.int v), some (.int u), some (.int y), some (.int (fIx v)), none, none, none, none, none] [.int z] := fun z hz => by
      subst hz
      refine j_istore_5 (pc := 73) C dL_act_73 (by decide) rfl ?_
      refine j_iload_n (pc := 75) C rfl dL_act_75 rfl ?_
      refine j_iconst (pc := 76) (v := 5) C dL_act_76 (by decide) ?_
      refine jS_i0 (pc := 77) (k2 := 0) (n2 := 0) (np := 2) (As := [.int (u), .int 5]) C (ct_low (u) 5 (by decide)) gL_act_L_low rfl (by decide +kernel) ⟨by decide, by decide⟩ rfl rfl (Nat.le_of_ble_eq_true rfl) dL_act_77 (by decide) (by decide) ⟨by decide, by decide⟩ (fun v77 hv77 => ?_)
      subst hv77
      refine j_if_ne (pc := 80) (tgt := 87) C dL_act_80 (by decide) (fun c80 => ?_) (fun c80 => ?_)
      · have o9 : ¬ lowF u 5 = 0 := c80
        refine j_iload_n (pc := 87) C rfl dL_act_87 rfl ?_
        refine j_iconst (pc := 88) (v := 3) C dL_act_88 (by decide) ?_
        refine j_ishr (pc := 89) C dL_act_89 ?_
        refine jS_l0 (pc := 90) (k2 := 0) (n2 := 0) (np := 1) (As := [.int (u >>> ((3 : Int32) &&& 31))]) C (ct_bits (u >>> ((3 : Int32) &&& 31))) gL_act_L_bits rfl (by decide +kernel) ⟨by decide, by decide⟩ rfl rfl (Nat.le_of_ble_eq_true rfl) dL_act_90 (by decide) (by decide) ⟨by decide, by decide⟩ (fun v90 hv90 => ?_)
        subst hv90
        exact k93 _ (by unfold mkX; first | rw [if_pos o9] | rw [if_neg o9])
      · have o9 : lowF u 5 = 0 := c80
        refine j_lconst (pc := 83) (v := 0) C dL_act_83 (by decide) ?_
        refine j_goto (pc := 84) (tgt := 93) C dL_act_84 (by decide) ?_
        exact k93 _ (by unfold mkX; first | rw [if_pos o9] | rw [if_neg o9])
    have k42 : ∀ z : Int32, z = fIx v → J p l e (rmD 33 100 1000) s m args below meth c G A s.heap 10 (MQ below (va_Qi (StA G ad L w (actR v u S)) (PB G A) A) args s (rmD 33 100 1000).cells (rmD 33 100 1000).slots A) L w 0 0 42 [some (.ref (ad 0)), some (.int v), some (.int u), some (.int y), none, none, none, none, none, none] [.int z] := fun z hz => by
      subst hz
      refine j_istore_4 (pc := 42) C dL_act_42 (by decide) rfl ?_
      refine j_iload_n (pc := 44) C rfl dL_act_44 rfl ?_
      refine j_if_eq (pc := 45) (tgt := 62) C dL_act_45 (by decide) (fun c45 => ?_) (fun c45 => ?_)
      · have o9 : ¬ lowF (v >>> ((24 : Int32) &&& 31)) 9 = 0 := hy.mp c45
        refine j_iload_n (pc := 62) C rfl dL_act_62 rfl ?_
        refine j_bipush (pc := 63) (v := 7) C dL_act_63 (by decide) ?_
        refine j_ishr (pc := 65) C dL_act_65 ?_
        refine j_iconst (pc := 66) (v := 5) C dL_act_66 (by decide) ?_
        refine jS_i0 (pc := 67) (k2 := 0) (n2 := 0) (np := 2) (As := [.int (v >>> ((7 : Int32) &&& 31)), .int 5]) C (ct_low (v >>> ((7 : Int32) &&& 31)) 5 (by decide)) gL_act_L_low rfl (by decide +kernel) ⟨by decide, by decide⟩ rfl rfl (Nat.le_of_ble_eq_true rfl) dL_act_67 (by decide) (by decide) ⟨by decide, by decide⟩ (fun v67 hv67 => ?_)
        subst hv67
        refine j_bipush (pc := 70) (v := 6) C dL_act_70 (by decide) ?_
        refine j_imul (pc := 72) C dL_act_72 ?_
        exact k73 _ (by unfold nIx; first | rw [if_pos o9] | rw [if_neg o9])
      · have o9 : lowF (v >>> ((24 : Int32) &&& 31)) 9 = 0 := Decidable.not_not.mp (fun q => c45 (hy.mpr q))
        refine j_iload_n (pc := 48) C rfl dL_act_48 rfl ?_
        refine j_bipush (pc := 49) (v := 7) C dL_act_49 (by decide) ?_
        refine j_ishr (pc := 51) C dL_act_51 ?_
        refine j_bipush (pc := 52) (v := 34) C dL_act_52 (by decide) ?_
        refine jS_i0 (pc := 54) (k2 := 0) (n2 := 0) (np := 2) (As := [.int (v >>> ((7 : Int32) &&& 31)), .int 34]) C (ct_low (v >>> ((7 : Int32) &&& 31)) 34 (by decide)) gL_act_L_low rfl (by decide +kernel) ⟨by decide, by decide⟩ rfl rfl (Nat.le_of_ble_eq_true rfl) dL_act_54 (by decide) (by decide) ⟨by decide, by decide⟩ (fun v54 hv54 => ?_)
        subst hv54
        refine j_iconst (pc := 57) (v := 1) C dL_act_57 (by decide) ?_
        refine j_isub (pc := 58) C dL_act_58 ?_
        refine j_goto (pc := 59) (tgt := 73) C dL_act_59 (by decide) ?_
        exact k73 _ (by unfold nIx; first | rw [if_pos o9] | rw [if_neg o9])
    refine j_istore_3 (pc := 17) C dL_act_17 (by decide) rfl ?_
    refine j_iload_n (pc := 18) C rfl dL_act_18 rfl ?_
    refine j_if_eq (pc := 19) (tgt := 35) C dL_act_19 (by decide) (fun c19 => ?_) (fun c19 => ?_)
    · have o9 : ¬ lowF (v >>> ((24 : Int32) &&& 31)) 9 = 0 := hy.mp c19
      refine j_iload_n (pc := 35) C rfl dL_act_35 rfl ?_
      refine j_iconst (pc := 36) (v := 4) C dL_act_36 (by decide) ?_
      refine j_ishr (pc := 37) C dL_act_37 ?_
      refine j_iconst (pc := 38) (v := 4) C dL_act_38 (by decide) ?_
      refine jS_i0 (pc := 39) (k2 := 0) (n2 := 0) (np := 2) (As := [.int (v >>> ((4 : Int32) &&& 31)), .int 4]) C (ct_low (v >>> ((4 : Int32) &&& 31)) 4 (by decide)) gL_act_L_low rfl (by decide +kernel) ⟨by decide, by decide⟩ rfl rfl (Nat.le_of_ble_eq_true rfl) dL_act_39 (by decide) (by decide) ⟨by decide, by decide⟩ (fun v39 hv39 => ?_)
      subst hv39
      exact k42 _ (by unfold fIx; first | rw [if_pos o9] | rw [if_neg o9])
    · have o9 : lowF (v >>> ((24 : Int32) &&& 31)) 9 = 0 := Decidable.not_not.mp (fun q => c19 (hy.mpr q))
      refine j_iload_n (pc := 22) C rfl dL_act_22 rfl ?_
      refine j_iconst (pc := 23) (v := 4) C dL_act_23 (by decide) ?_
      refine j_ishr (pc := 24) C dL_act_24 ?_
      refine j_bipush (pc := 25) (v := 6) C dL_act_25 (by decide) ?_
      refine jS_i0 (pc := 27) (k2 := 0) (n2 := 0) (np := 2) (As := [.int (v >>> ((4 : Int32) &&& 31)), .int 6]) C (ct_low (v >>> ((4 : Int32) &&& 31)) 6 (by decide)) gL_act_L_low rfl (by decide +kernel) ⟨by decide, by decide⟩ rfl rfl (Nat.le_of_ble_eq_true rfl) dL_act_27 (by decide) (by decide) ⟨by decide, by decide⟩ (fun v27 hv27 => ?_)
      subst hv27
      refine j_iconst (pc := 30) (v := 1) C dL_act_30 (by decide) ?_
      refine j_isub (pc := 31) C dL_act_31 ?_
      refine j_goto (pc := 32) (tgt := 42) C dL_act_32 (by decide) ?_
      exact k42 _ (by unfold fIx; first | rw [if_pos o9] | rw [if_neg o9])
  refine j_iload_n (pc := 0) C rfl dL_act_0 rfl ?_
  refine j_bipush (pc := 1) (v := 24) C dL_act_1 (by decide) ?_
  refine j_ishr (pc := 3) C dL_act_3 ?_
  refine j_bipush (pc := 4) (v := 9) C dL_act_4 (by decide) ?_
  refine jS_i0 (pc := 6) (k2 := 0) (n2 := 0) (np := 2) (As := [.int (v >>> ((24 : Int32) &&& 31)), .int 9]) C (ct_low (v >>> ((24 : Int32) &&& 31)) 9 (by decide)) gL_act_L_low rfl (by decide +kernel) ⟨by decide, by decide⟩ rfl rfl (Nat.le_of_ble_eq_true rfl) dL_act_6 (by decide) (by decide) ⟨by decide, by decide⟩ (fun v6 hv6 => ?_)
  subst hv6
  refine j_if_ne (pc := 9) (tgt := 16) C dL_act_9 (by decide) (fun c9 => ?_) (fun c9 => ?_)
  · have o9 : ¬ lowF (v >>> ((24 : Int32) &&& 31)) 9 = 0 := c9
    refine j_iconst (pc := 16) (v := 0) C dL_act_16 (by decide) ?_
    exact k17 _ ⟨fun q => by first | exact o9 | exact absurd q (by decide), fun q => by first | rfl | exact absurd o9 q⟩
  · have o9 : lowF (v >>> ((24 : Int32) &&& 31)) 9 = 0 := c9
    refine j_iconst (pc := 12) (v := 1) C dL_act_12 (by decide) ?_
    refine j_goto (pc := 13) (tgt := 17) C dL_act_13 (by decide) ?_
    exact k17 _ ⟨fun q => by first | exact o9 | exact absurd q (by decide), fun q => by first | rfl | exact absurd o9 q⟩

