def am_hasP (i : Nat) (w : Cond) : Bool := decide ((k2_sels lw_privs)[i]? = some w) && goodWord w
theorem am_hasP_in {i : Nat} {w : Cond} (h : am_hasP i w = true) : w ∈ am_T := by
  unfold am_hasP at h
  simp only [Bool.and_eq_true, decide_eq_true_eq] at h
  exact List.mem_filter.mpr ⟨List.mem_append_left _ (List.mem_of_getElem? h.1), h.2⟩
theorem am_fl_ok : ((List.range 23).all fun own => (am_fl own).all fun e => am_has e.2.2.2 (.fieldLink (am_CN own) e.1 (am_CN e.2.1) (am_TT e.2.1 e.2.2.1).2.1 (am_TT e.2.1 e.2.2.1).2.2.1) && (decide (e.2.1 < 13) && decide (e.2.2.1 < am_NN e.2.1))) = true := by decide +kernel
theorem am_ml_ok : ((List.range 23).all fun own => (am_ml own).all fun e => am_has e.2.2 (.methodLink (am_CN own) e.1 (am_my e.2.1)) && decide (e.2.1 < 328)) = true := by decide +kernel
theorem am_nl_ok : ((List.range 23).all fun own => (am_nl own).all fun e => decide (tables_1[e.2.2]? = some (.methodLinkNest (am_CN own) e.1 (am_my e.2.1) "SpoonSet")) && decide (e.2.1 < 328)) = true := by decide +kernel
theorem am_kl_ok : ((List.range 23).all fun own => (am_kl own).all fun e => am_has e.2.2 (.constant (am_CN own) e.1 (Int32.ofInt e.2.1))) = true := by decide +kernel
theorem am_jl_ok : ((List.range 23).all fun own => (am_jl own).all fun e => am_has e.2.2 (.constantLong (am_CN own) e.1 (Int64.ofInt e.2.1))) = true := by decide +kernel
theorem am_cl0_ok : ((List.range 23).all fun own => (am_cl0 own).all fun e => am_has e.2.2 (.classLink (am_CN own) e.1 (am_CN e.2.1)) && decide (e.2.1 < 13)) = true := by decide +kernel
def am_an (t : Nat) : String := if t = 3 then "SpoonSet$Table" else "SpoonSet$Script"
theorem am_al_ok : ((List.range 23).all fun own => (am_al own).all fun e => am_has e.2.2 (.classLink (am_CN own) e.1 (am_an e.2.1)) && decide (e.2.1 = 3 ∨ e.2.1 = 4)) = true := by decide +kernel
def am_pn (t : Nat) : MethodName := if t = 900 then Lib.Math.min.name else if t = 901 then Lib.Math.max.name else if t = 902 then arraycopyName else if t = 950 then Lib.objectInit else if t = 910 then ⟨"java/lang/String", "length", "()I"⟩ else if t = 911 then ⟨"java/lang/String", "charAt", "(I)C"⟩ else ⟨"java/lang/String", "indexOf", "(I)I"⟩
theorem am_pl_ok : ((List.range 23).all fun own => (am_pl own).all fun e => am_has e.2.2 (.methodLink (am_CN own) e.1 (am_pn e.2.1))) = true := by decide +kernel
def am_mok (m : Nat) : Bool :=
  (am_has (am_mp m).2.1 (.initialized (am_my m).cls) &&
  ((if (am_mp m).2.2.2.1 = 0 then am_has (am_mp m).2.2.1 (.static (am_my m)) else
    am_has (am_mp m).2.2.1 (.instanceMethod (am_my m)) && (if (am_mp m).2.2.2.1 = 1 then decide ((am_my m).name = "<init>" ∧ am_mr m = none) else if (am_mp m).2.2.2.1 = 2 then am_has (am_mp m).2.2.2.2 (.selects (am_my m).cls (am_my m) (am_my m)) else am_hasP (am_mp m).2.2.2.2 (.selects (am_my m).cls (am_my m) (am_my m)))) &&
  (decide ((am_my m).cls = am_CN (am_mo m)) && (decide ((am_my m).cls ≠ "java/lang/invoke/MethodHandle" ∧ (am_my m).cls ≠ "java/lang/invoke/VarHandle") && (decide ((parseMethodDescriptor (am_my m).desc).map (fun d => d.parameters.length) = some (am_np m)) && (decide (am_mx m ≤ 81) && (plainName (am_my m).cls && decide (am_mo m < 23))))))))
theorem am_mok_a : ((List.range 60).all fun m => am_mok (m + 1)) = true := by decide +kernel
theorem am_mok_b : ((List.range 60).all fun m => am_mok (m + 61)) = true := by decide +kernel
theorem am_mok_c : ((List.range 60).all fun m => am_mok (m + 121)) = true := by decide +kernel
theorem am_mok_d : ((List.range 60).all fun m => am_mok (m + 181)) = true := by decide +kernel
theorem am_mok_e : ((List.range 87).all fun m => am_mok (m + 241)) = true := by decide +kernel
theorem am_mok_all {m : Nat} (h0 : 0 < m) (h : m < 328) : am_mok m = true := by
  by_cases h1 : m < 61
  · have := List.all_eq_true.mp am_mok_a (m - 1) (List.mem_range.mpr (by omega))
    rwa [show m - 1 + 1 = m by omega] at this
  by_cases h2 : m < 121
  · have := List.all_eq_true.mp am_mok_b (m - 61) (List.mem_range.mpr (by omega))
    rwa [show m - 61 + 61 = m by omega] at this
  by_cases h3 : m < 181
  · have := List.all_eq_true.mp am_mok_c (m - 121) (List.mem_range.mpr (by omega))
    rwa [show m - 121 + 121 = m by omega] at this
  by_cases h4 : m < 241
  · have := List.all_eq_true.mp am_mok_d (m - 181) (List.mem_range.mpr (by omega))
    rwa [show m - 181 + 181 = m by omega] at this
  · have := List.all_eq_true.mp am_mok_e (m - 241) (List.mem_range.mpr (by omega))
    rwa [show m - 241 + 241 = m by omega] at this
