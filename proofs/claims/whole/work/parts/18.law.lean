/-! the law's own end -/
def R_law : String := "LifeboatHouseLaw"
def lw_P (b : Addr) (xs : List Int32) (args : Array Value) (s : State) : Prop := args = #[.ref b] ∧ s.IntsAt b xs ∧ xs.length ≤ 2560 ∧ (Jvm.Cond.and given_1 narrow_1).before args s = true
def lw_Q (_ : Array Value) (s : State) (o : Outcome) (t : State) : Prop := o = .returned (some (.int 1)) ∧ Framed s o t [] 600000 7302250
def lw_Z (below : List Frame) (a : Array Value) (s : State) : State → Prop := fun t => ∃ o, t.status = .running ∧ Ended t below o ∧ lw_Q a s o t
theorem lw_retG {p : Program} {l : Launch} {e : Env} {s : State} {m : MethodId} {args : Array Value} {below : List Frame} {meth : Method} {c : Code} {cc : ByteArray} (hx : p.tables.exec = Jvm.exec) (hb : c.code = cc) (hr : meth.sig.returnType = some .boolean) (hlocks : meth.locks = false) {pc : Nat} {H : Heap} {ls : Array Slot} (hdg : decode cc pc = .ok (.ireturn, 1)) : W p l e room_1 s m args below meth c H [] 600000 7302250 (lw_Z below args s) (F0 m pc ls [.int 1]) := by
  intro T hT X
  obtain ⟨fs, hret, hrun, hended, hW, hframe⟩ := X.leave (v := some (.int 1)) (hlocks := hlocks) (fun h => by rw [hr] at h; cases h)
  have hmeth' : T.vm.method? m = some meth := X.method'
  refine ⟨T.setFrames fs, ?_, .returned (some (.int 1)), hrun, hended, rfl, ⟨_, rfl⟩, hW, hframe⟩
  jvm_step X.here [X.here.top, hx, hb, hdg, hmeth', hr, narrow_b1]
  (try refine ⟨rfl, ?_⟩); (try refine ⟨rfl, ?_⟩)
  first | (intro acts; rw [hret _ acts rfl rfl rfl]) | rw [hret _ _ rfl rfl rfl]
  exact Steps.refl _
/-- where the function says 1, the law ends as it must -/
def QL (E : EV) (r : LV × Mem) (below : List Frame) (args : Array Value) (s : State) : State → Prop := fun t => E.2.1 = s.heap → r.1 = .inl 1 → lw_Z below args s t
theorem J_lawret {E : EV} {M : MI} {cells slots pc : Nat} {μ : Mem} {lv : List (Option LV)} {v : Int32} (hd : decode M.2.1 pc = .ok (.ireturn, 1)) (hret : M.2.2.2 = some .boolean) (hc : cells ≤ 600000) (hs : slots ≤ 7302250) : J E M room_1 (QL E) cells slots μ pc lv [.inl v] (some (.inl v, μ)) := by
  intro r hr p e s m args below meth c ls H locs fx ks wh lo hl
  cases hr
  by_cases hE : E.2.1 = s.heap
  · by_cases hv : v = 1
    · subst hv
      have k : W p E.1 e room_1 s m args below meth c H [] 600000 7302250 (lw_Z below args s) (F0 m pc ls [.int 1]) := lw_retG fx.1 fx.2.1 (fx.2.2.2.2.2.1.trans hret) fx.2.2.2.2.2.2.1 hd
      have k2 : W p E.1 e room_1 s m args below meth c H locs cells slots (lw_Z below args s) (F0 m pc ls [.int 1]) := W.widen hc hs (va_forget (fun q hq => by rw [← hE]; exact lo q hq) k)
      intro T hT X
      obtain ⟨t, a1, b1⟩ := k2 T hT X
      exact ⟨t, a1, fun _ _ => b1⟩
    · intro T hT X
      exact ⟨_, Steps.refl _, fun _ h => absurd (Sum.inl.inj h) hv⟩
  · intro T hT X
    exact ⟨_, Steps.refl _, fun h _ => absurd h hE⟩
/-! the law, by program -/
def k_L_law_18 (xs : Nat → Int32) (L : Nat) (a1 a2 : Nat) : Nat → Int32 → Mem → Option (LV × Mem)
  | 0, _, _ => none
  | n + 1, a3, μ => (if ((Int32.ofNat L) - 5) < a3 then (some (.inl 1, μ)) else sI xs L a3 (fun v1 => nm (v1 &&& 31) (fun v2 => (if v2 = 0 then sI xs L (a3 + 1) (fun v3 => sI xs L (a3 + 2) (fun v4 => sI xs L (a3 + 3) (fun v5 => cV 9 a1 μ (bI (f_H_station a1 v3 v4 v5 μ) (fun v7 μ6 => sI xs L (a3 + 1) (fun v8 => sI xs L (a3 + 2) (fun v9 => sI xs L (a3 + 3) (fun v10 => cV 10 a2 μ6 (bI (f_M_station a2 v8 v9 v10 μ6) (fun v12 μ11 => (if v7 = v12 then (k_L_law_18 xs L a1 a2 n (a3 + 5) μ11) else (some (.inl 0, μ11))))))))))))) else (if v2 = 1 then sI xs L (a3 + 1) (fun v13 => sI xs L (a3 + 2) (fun v14 => sI xs L (a3 + 3) (fun v15 => cV 9 a1 μ (bI (f_H_person a1 v13 v14 v15 μ) (fun v17 μ16 => sI xs L (a3 + 1) (fun v18 => sI xs L (a3 + 2) (fun v19 => sI xs L (a3 + 3) (fun v20 => cV 10 a2 μ16 (bI (f_M_person a2 v18 v19 v20 μ16) (fun v22 μ21 => (if v17 = v22 then (k_L_law_18 xs L a1 a2 n (a3 + 5) μ21) else (some (.inl 0, μ21))))))))))))) else (if v2 = 2 then sI xs L (a3 + 1) (fun v23 => sI xs L (a3 + 2) (fun v24 => cV 9 a1 μ (bI (f_H_papers a1 v23 v24 μ) (fun v26 μ25 => sI xs L (a3 + 1) (fun v27 => sI xs L (a3 + 2) (fun v28 => cV 10 a2 μ25 (bI (f_M_papers a2 v27 v28 μ25) (fun v30 μ29 => (if v26 = v30 then (k_L_law_18 xs L a1 a2 n (a3 + 5) μ29) else (some (.inl 0, μ29))))))))))) else (if v2 = 3 then sI xs L (a3 + 1) (fun v31 => sI xs L (a3 + 2) (fun v32 => (if v32 = 0 then cV 9 a1 μ (bI (f_H_page a1 v31 0 μ) (fun v34 μ33 => sI xs L (a3 + 1) (fun v35 => sI xs L (a3 + 2) (fun v36 => (if v36 = 0 then cV 10 a2 μ33 (bI (f_M_page a2 v35 0 μ33) (fun v38 μ37 => (if v34 = v38 then (k_L_law_18 xs L a1 a2 n (a3 + 5) μ37) else (some (.inl 0, μ37))))) else cV 10 a2 μ33 (bI (f_M_page a2 v35 1 μ33) (fun v40 μ39 => (if v34 = v40 then (k_L_law_18 xs L a1 a2 n (a3 + 5) μ39) else (some (.inl 0, μ39)))))))))) else cV 9 a1 μ (bI (f_H_page a1 v31 1 μ) (fun v42 μ41 => sI xs L (a3 + 1) (fun v43 => sI xs L (a3 + 2) (fun v44 => (if v44 = 0 then cV 10 a2 μ41 (bI (f_M_page a2 v43 0 μ41) (fun v46 μ45 => (if v42 = v46 then (k_L_law_18 xs L a1 a2 n (a3 + 5) μ45) else (some (.inl 0, μ45))))) else cV 10 a2 μ41 (bI (f_M_page a2 v43 1 μ41) (fun v48 μ47 => (if v42 = v48 then (k_L_law_18 xs L a1 a2 n (a3 + 5) μ47) else (some (.inl 0, μ47))))))))))))) else (if v2 = 4 then sI xs L (a3 + 1) (fun v49 => sI xs L (a3 + 2) (fun v50 => cV 9 a1 μ (bI (f_H_partOf a1 v49 v50 μ) (fun v52 μ51 => sI xs L (a3 + 1) (fun v53 => sI xs L (a3 + 2) (fun v54 => cV 10 a2 μ51 (bI (f_M_partOf a2 v53 v54 μ51) (fun v56 μ55 => (if v52 = v56 then (k_L_law_18 xs L a1 a2 n (a3 + 5) μ55) else (some (.inl 0, μ55))))))))))) else (if v2 = 5 then sI xs L (a3 + 1) (fun v57 => sI xs L (a3 + 2) (fun v58 => cV 9 a1 μ (bI (f_H_set a1 v57 v58 μ) (fun v60 μ59 => sI xs L (a3 + 1) (fun v61 => sI xs L (a3 + 2) (fun v62 => cV 10 a2 μ59 (bI (f_M_set a2 v61 v62 μ59) (fun v64 μ63 => (if v60 = v64 then (k_L_law_18 xs L a1 a2 n (a3 + 5) μ63) else (some (.inl 0, μ63))))))))))) else (if v2 = 6 then sI xs L (a3 + 1) (fun v65 => sI xs L (a3 + 2) (fun v66 => cV 9 a1 μ (bI (f_H_chance a1 v65 v66 μ) (fun v68 μ67 => sI xs L (a3 + 1) (fun v69 => sI xs L (a3 + 2) (fun v70 => cV 10 a2 μ67 (bI (f_M_chance a2 v69 v70 μ67) (fun v72 μ71 => (if v68 = v72 then (k_L_law_18 xs L a1 a2 n (a3 + 5) μ71) else (some (.inl 0, μ71))))))))))) else (if v2 = 7 then sI xs L (a3 + 1) (fun v73 => sI xs L (a3 + 2) (fun v74 => cV 9 a1 μ (bI (f_H_weak a1 v73 v74 μ) (fun v76 μ75 => sI xs L (a3 + 1) (fun v77 => sI xs L (a3 + 2) (fun v78 => cV 10 a2 μ75 (bI (f_M_weak a2 v77 v78 μ75) (fun v80 μ79 => (if v76 = v80 then (k_L_law_18 xs L a1 a2 n (a3 + 5) μ79) else (some (.inl 0, μ79))))))))))) else (if v2 = 8 then sI xs L (a3 + 1) (fun v81 => sI xs L (a3 + 2) (fun v82 => cV 9 a1 μ (bI (f_H_tide a1 v81 v82 μ) (fun v84 μ83 => sI xs L (a3 + 1) (fun v85 => sI xs L (a3 + 2) (fun v86 => cV 10 a2 μ83 (bI (f_M_tide a2 v85 v86 μ83) (fun v88 μ87 => (if v84 = v88 then (k_L_law_18 xs L a1 a2 n (a3 + 5) μ87) else (some (.inl 0, μ87))))))))))) else (if v2 = 9 then sI xs L (a3 + 1) (fun v89 => sI xs L (a3 + 2) (fun v90 => cV 9 a1 μ (bI (f_H_slip a1 v89 v90 μ) (fun v92 μ91 => sI xs L (a3 + 1) (fun v93 => sI xs L (a3 + 2) (fun v94 => cV 10 a2 μ91 (bI (f_M_slip a2 v93 v94 μ91) (fun v96 μ95 => (if v92 = v96 then (k_L_law_18 xs L a1 a2 n (a3 + 5) μ95) else (some (.inl 0, μ95))))))))))) else (if v2 = 10 then sI xs L (a3 + 1) (fun v97 => cV 9 a1 μ (bI (f_H_minutes a1 v97 μ) (fun v99 μ98 => sI xs L (a3 + 1) (fun v100 => cV 10 a2 μ98 (bI (f_M_minutes a2 v100 μ98) (fun v102 μ101 => (if v99 = v102 then (k_L_law_18 xs L a1 a2 n (a3 + 5) μ101) else (some (.inl 0, μ101))))))))) else (if v2 = 11 then sI xs L (a3 + 1) (fun v103 => sI xs L (a3 + 2) (fun v104 => cV 9 a1 μ (bI (f_H_boat a1 v103 v104 μ) (fun v106 μ105 => sI xs L (a3 + 1) (fun v107 => sI xs L (a3 + 2) (fun v108 => cV 10 a2 μ105 (bI (f_M_boat a2 v107 v108 μ105) (fun v110 μ109 => (if v106 = v110 then (k_L_law_18 xs L a1 a2 n (a3 + 5) μ109) else (some (.inl 0, μ109))))))))))) else (if v2 = 12 then sI xs L (a3 + 1) (fun v111 => sI xs L (a3 + 2) (fun v112 => sI xs L (a3 + 3) (fun v113 => cV 9 a1 μ (bI (f_H_speed a1 v111 v112 v113 μ) (fun v115 μ114 => sI xs L (a3 + 1) (fun v116 => sI xs L (a3 + 2) (fun v117 => sI xs L (a3 + 3) (fun v118 => cV 10 a2 μ114 (bI (f_M_speed a2 v116 v117 v118 μ114) (fun v120 μ119 => (if v115 = v120 then (k_L_law_18 xs L a1 a2 n (a3 + 5) μ119) else (some (.inl 0, μ119))))))))))))) else (if v2 = 13 then sI xs L (a3 + 1) (fun v121 => sI xs L (a3 + 2) (fun v122 => cV 9 a1 μ (bI (f_H_move a1 v121 v122 μ) (fun v124 μ123 => sI xs L (a3 + 1) (fun v125 => sI xs L (a3 + 2) (fun v126 => cV 10 a2 μ123 (bI (f_M_move a2 v125 v126 μ123) (fun v128 μ127 => (if v124 = v128 then (k_L_law_18 xs L a1 a2 n (a3 + 5) μ127) else (some (.inl 0, μ127))))))))))) else (if v2 = 14 then sI xs L (a3 + 1) (fun v129 => sI xs L (a3 + 2) (fun v130 => sI xs L (a3 + 3) (fun v131 => cV 9 a1 μ (bI (f_H_call a1 v129 v130 v131 μ) (fun v133 μ132 => sI xs L (a3 + 1) (fun v134 => sI xs L (a3 + 2) (fun v135 => sI xs L (a3 + 3) (fun v136 => cV 10 a2 μ132 (bI (f_M_call a2 v134 v135 v136 μ132) (fun v138 μ137 => (if v133 = v138 then (k_L_law_18 xs L a1 a2 n (a3 + 5) μ137) else (some (.inl 0, μ137))))))))))))) else (if v2 = 15 then sI xs L (a3 + 1) (fun v139 => sI xs L (a3 + 2) (fun v140 => sI xs L (a3 + 3) (fun v141 => cV 9 a1 μ (bI (f_H_reach a1 v139 v140 v141 μ) (fun v143 μ142 => sI xs L (a3 + 1) (fun v144 => sI xs L (a3 + 2) (fun v145 => sI xs L (a3 + 3) (fun v146 => cV 10 a2 μ142 (bI (f_M_reach a2 v144 v145 v146 μ142) (fun v148 μ147 => (if v143 = v148 then (k_L_law_18 xs L a1 a2 n (a3 + 5) μ147) else (some (.inl 0, μ147))))))))))))) else (if v2 = 16 then sI xs L (a3 + 1) (fun v149 => cV 9 a1 μ (bI (f_H_first a1 v149 μ) (fun v151 μ150 => sI xs L (a3 + 1) (fun v152 => cV 10 a2 μ150 (bI (f_M_first a2 v152 μ150) (fun v154 μ153 => (if v151 = v154 then (k_L_law_18 xs L a1 a2 n (a3 + 5) μ153) else (some (.inl 0, μ153))))))))) else (if v2 = 17 then sI xs L (a3 + 1) (fun v155 => sI xs L (a3 + 2) (fun v156 => sI xs L (a3 + 3) (fun v157 => cV 9 a1 μ (bI (f_H_two a1 v155 v156 v157 μ) (fun v159 μ158 => sI xs L (a3 + 1) (fun v160 => sI xs L (a3 + 2) (fun v161 => sI xs L (a3 + 3) (fun v162 => cV 10 a2 μ158 (bI (f_M_two a2 v160 v161 v162 μ158) (fun v164 μ163 => (if v159 = v164 then (k_L_law_18 xs L a1 a2 n (a3 + 5) μ163) else (some (.inl 0, μ163))))))))))))) else (if v2 = 18 then sI xs L (a3 + 1) (fun v165 => sI xs L (a3 + 2) (fun v166 => sI xs L (a3 + 3) (fun v167 => sI xs L (a3 + 4) (fun v168 => (if v168 = 0 then cV 9 a1 μ (bI (f_H_send a1 v165 v166 v167 0 μ) (fun v170 μ169 => sI xs L (a3 + 1) (fun v171 => sI xs L (a3 + 2) (fun v172 => sI xs L (a3 + 3) (fun v173 => sI xs L (a3 + 4) (fun v174 => (if v174 = 0 then cV 10 a2 μ169 (bI (f_M_send a2 v171 v172 v173 0 μ169) (fun v176 μ175 => (if v170 = v176 then (k_L_law_18 xs L a1 a2 n (a3 + 5) μ175) else (some (.inl 0, μ175))))) else cV 10 a2 μ169 (bI (f_M_send a2 v171 v172 v173 1 μ169) (fun v178 μ177 => (if v170 = v178 then (k_L_law_18 xs L a1 a2 n (a3 + 5) μ177) else (some (.inl 0, μ177)))))))))))) else cV 9 a1 μ (bI (f_H_send a1 v165 v166 v167 1 μ) (fun v180 μ179 => sI xs L (a3 + 1) (fun v181 => sI xs L (a3 + 2) (fun v182 => sI xs L (a3 + 3) (fun v183 => sI xs L (a3 + 4) (fun v184 => (if v184 = 0 then cV 10 a2 μ179 (bI (f_M_send a2 v181 v182 v183 0 μ179) (fun v186 μ185 => (if v180 = v186 then (k_L_law_18 xs L a1 a2 n (a3 + 5) μ185) else (some (.inl 0, μ185))))) else cV 10 a2 μ179 (bI (f_M_send a2 v181 v182 v183 1 μ179) (fun v188 μ187 => (if v180 = v188 then (k_L_law_18 xs L a1 a2 n (a3 + 5) μ187) else (some (.inl 0, μ187))))))))))))))))) else (if v2 = 19 then sI xs L (a3 + 1) (fun v189 => sI xs L (a3 + 2) (fun v190 => cV 9 a1 μ (bI (f_H_log a1 v189 v190 μ) (fun v192 μ191 => sI xs L (a3 + 1) (fun v193 => sI xs L (a3 + 2) (fun v194 => cV 10 a2 μ191 (bI (f_M_log a2 v193 v194 μ191) (fun v196 μ195 => (if v192 = v196 then (k_L_law_18 xs L a1 a2 n (a3 + 5) μ195) else (some (.inl 0, μ195))))))))))) else (if v2 = 20 then sI xs L (a3 + 1) (fun v197 => cV 9 a1 μ (bI (f_H_covered a1 v197 μ) (fun v199 μ198 => sI xs L (a3 + 1) (fun v200 => cV 10 a2 μ198 (bI (f_M_covered a2 v200 μ198) (fun v202 μ201 => (if v199 = v202 then (k_L_law_18 xs L a1 a2 n (a3 + 5) μ201) else (some (.inl 0, μ201))))))))) else (if v2 = 21 then sI xs L (a3 + 1) (fun v203 => cV 9 a1 μ (bI (f_H_flanks a1 v203 μ) (fun v205 μ204 => sI xs L (a3 + 1) (fun v206 => cV 10 a2 μ204 (bI (f_M_flanks a2 v206 μ204) (fun v208 μ207 => (if v205 = v208 then (k_L_law_18 xs L a1 a2 n (a3 + 5) μ207) else (some (.inl 0, μ207))))))))) else (if v2 = 22 then sI xs L (a3 + 1) (fun v209 => cV 9 a1 μ (bI (f_H_flank a1 v209 μ) (fun v211 μ210 => sI xs L (a3 + 1) (fun v212 => cV 10 a2 μ210 (bI (f_M_flank a2 v212 μ210) (fun v214 μ213 => (if v211 = v214 then (k_L_law_18 xs L a1 a2 n (a3 + 5) μ213) else (some (.inl 0, μ213))))))))) else (if v2 = 23 then sI xs L (a3 + 1) (fun v215 => sI xs L (a3 + 2) (fun v216 => cV 9 a1 μ (bI (f_H_box a1 v215 v216 μ) (fun v218 μ217 => sI xs L (a3 + 1) (fun v219 => sI xs L (a3 + 2) (fun v220 => cV 10 a2 μ217 (bI (f_M_box a2 v219 v220 μ217) (fun v222 μ221 => (if v218 = v222 then (k_L_law_18 xs L a1 a2 n (a3 + 5) μ221) else (some (.inl 0, μ221))))))))))) else (if v2 = 24 then sI xs L (a3 + 1) (fun v223 => sI xs L (a3 + 2) (fun v224 => cV 9 a1 μ (bI (f_H_look a1 v223 v224 μ) (fun v226 μ225 => sI xs L (a3 + 1) (fun v227 => sI xs L (a3 + 2) (fun v228 => cV 10 a2 μ225 (bI (f_M_look a2 v227 v228 μ225) (fun v230 μ229 => (if v226 = v230 then (k_L_law_18 xs L a1 a2 n (a3 + 5) μ229) else (some (.inl 0, μ229))))))))))) else (if v2 = 25 then sI xs L (a3 + 1) (fun v231 => sI xs L (a3 + 2) (fun v232 => cV 9 a1 μ (bI (f_H_looks a1 v231 v232 μ) (fun v234 μ233 => sI xs L (a3 + 1) (fun v235 => sI xs L (a3 + 2) (fun v236 => cV 10 a2 μ233 (bI (f_M_looks a2 v235 v236 μ233) (fun v238 μ237 => (if v234 = v238 then (k_L_law_18 xs L a1 a2 n (a3 + 5) μ237) else (some (.inl 0, μ237))))))))))) else (if v2 = 26 then sI xs L (a3 + 1) (fun v239 => sI xs L (a3 + 2) (fun v240 => sI xs L (a3 + 3) (fun v241 => cV 9 a1 μ (bI (f_H_lookAt a1 v239 v240 v241 μ) (fun v243 μ242 => sI xs L (a3 + 1) (fun v244 => sI xs L (a3 + 2) (fun v245 => sI xs L (a3 + 3) (fun v246 => cV 10 a2 μ242 (bI (f_M_lookAt a2 v244 v245 v246 μ242) (fun v248 μ247 => (if v243 = v248 then (k_L_law_18 xs L a1 a2 n (a3 + 5) μ247) else (some (.inl 0, μ247))))))))))))) else (if v2 = 27 then sI xs L (a3 + 1) (fun v249 => sI xs L (a3 + 2) (fun v250 => cV 9 a1 μ (bI (f_H_rest a1 v249 v250 μ) (fun v252 μ251 => sI xs L (a3 + 1) (fun v253 => sI xs L (a3 + 2) (fun v254 => cV 10 a2 μ251 (bI (f_M_rest a2 v253 v254 μ251) (fun v256 μ255 => (if v252 = v256 then (k_L_law_18 xs L a1 a2 n (a3 + 5) μ255) else (some (.inl 0, μ255))))))))))) else (if v2 = 28 then sI xs L (a3 + 1) (fun v257 => sI xs L (a3 + 2) (fun v258 => cV 9 a1 μ (bI (f_H_turn a1 v257 v258 μ) (fun v260 μ259 => sI xs L (a3 + 1) (fun v261 => sI xs L (a3 + 2) (fun v262 => cV 10 a2 μ259 (bI (f_M_turn a2 v261 v262 μ259) (fun v264 μ263 => (if v260 = v264 then (k_L_law_18 xs L a1 a2 n (a3 + 5) μ263) else (some (.inl 0, μ263))))))))))) else (if v2 = 29 then sI xs L (a3 + 1) (fun v265 => sI xs L (a3 + 2) (fun v266 => cV 9 a1 μ (bI (f_H_personOf a1 v265 v266 μ) (fun v268 μ267 => sI xs L (a3 + 1) (fun v269 => sI xs L (a3 + 2) (fun v270 => cV 10 a2 μ267 (bI (f_M_personOf a2 v269 v270 μ267) (fun v272 μ271 => (if v268 = v272 then (k_L_law_18 xs L a1 a2 n (a3 + 5) μ271) else (some (.inl 0, μ271))))))))))) else (if v2 = 30 then sI xs L (a3 + 1) (fun v273 => cV 9 a1 μ (bI (f_H_count a1 v273 μ) (fun v275 μ274 => sI xs L (a3 + 1) (fun v276 => cV 10 a2 μ274 (bI (f_M_count a2 v276 μ274) (fun v278 μ277 => (if v275 = v278 then (k_L_law_18 xs L a1 a2 n (a3 + 5) μ277) else (some (.inl 0, μ277))))))))) else (k_L_law_18 xs L a1 a2 n (a3 + 5) μ)))))))))))))))))))))))))))))))))))
set_option maxRecDepth 40000 in
set_option maxHeartbeats 8000000 in
theorem j_L_law_18 (E : EV) (a1 a2 : Nat) : ∀ (n : Nat) (a3 : Int32) (μ : Mem) (cells slots : Nat), cells + 4 * n ≤ 600000 → slots + 86 * n ≤ 7302250 → J E I_L_law room_1 (QL E) cells slots μ 18 [some (.inr 2), some (.inr a1), some (.inr a2), some (.inl a3)] [] (k_L_law_18 E.2.2.2.2.2.2.2 E.2.2.2.2.2.2.1 a1 a2 n a3 μ)
  | 0, _, _, _, _, _, _ => J_none
  | n + 1, a3, μ, cells, slots, hcl, hsl => by
    show J E I_L_law room_1 (QL E) cells slots μ 18 [some (.inr 2), some (.inr a1), some (.inr a2), some (.inl a3)] [] ((if ((Int32.ofNat E.2.2.2.2.2.2.1) - 5) < a3 then (some (.inl 1, μ)) else sI E.2.2.2.2.2.2.2 E.2.2.2.2.2.2.1 a3 (fun v1 => nm (v1 &&& 31) (fun v2 => (if v2 = 0 then sI E.2.2.2.2.2.2.2 E.2.2.2.2.2.2.1 (a3 + 1) (fun v3 => sI E.2.2.2.2.2.2.2 E.2.2.2.2.2.2.1 (a3 + 2) (fun v4 => sI E.2.2.2.2.2.2.2 E.2.2.2.2.2.2.1 (a3 + 3) (fun v5 => cV 9 a1 μ (bI (f_H_station a1 v3 v4 v5 μ) (fun v7 μ6 => sI E.2.2.2.2.2.2.2 E.2.2.2.2.2.2.1 (a3 + 1) (fun v8 => sI E.2.2.2.2.2.2.2 E.2.2.2.2.2.2.1 (a3 + 2) (fun v9 => sI E.2.2.2.2.2.2.2 E.2.2.2.2.2.2.1 (a3 + 3) (fun v10 => cV 10 a2 μ6 (bI (f_M_station a2 v8 v9 v10 μ6) (fun v12 μ11 => (if v7 = v12 then (k_L_law_18 E.2.2.2.2.2.2.2 E.2.2.2.2.2.2.1 a1 a2 n (a3 + 5) μ11) else (some (.inl 0, μ11))))))))))))) else (if v2 = 1 then sI E.2.2.2.2.2.2.2 E.2.2.2.2.2.2.1 (a3 + 1) (fun v13 => sI E.2.2.2.2.2.2.2 E.2.2.2.2.2.2.1 (a3 + 2) (fun v14 => sI E.2.2.2.2.2.2.2 E.2.2.2.2.2.2.1 (a3 + 3) (fun v15 => cV 9 a1 μ (bI (f_H_person a1 v13 v14 v15 μ) (fun v17 μ16 => sI E.2.2.2.2.2.2.2 E.2.2.2.2.2.2.1 (a3 + 1) (fun v18 => sI E.2.2.2.2.2.2.2 E.2.2.2.2.2.2.1 (a3 + 2) (fun v19 => sI E.2.2.2.2.2.2.2 E.2.2.2.2.2.2.1 (a3 + 3) (fun v20 => cV 10 a2 μ16 (bI (f_M_person a2 v18 v19 v20 μ16) (fun v22 μ21 => (if v17 = v22 then (k_L_law_18 E.2.2.2.2.2.2.2 E.2.2.2.2.2.2.1 a1 a2 n (a3 + 5) μ21) else (some (.inl 0, μ21))))))))))))) else (if v2 = 2 then sI E.2.2.2.2.2.2.2 E.2.2.2.2.2.2.1 (a3 + 1) (fun v23 => sI E.2.2.2.2.2.2.2 E.2.2.2.2.2.2.1 (a3 + 2) (fun v24 => cV 9 a1 μ (bI (f_H_papers a1 v23 v24 μ) (fun v26 μ25 => sI E.2.2.2.2.2.2.2 E.2.2.2.2.2.2.1 (a3 + 1) (fun v27 => sI E.2.2.2.2.2.2.2 E.2.2.2.2.2.2.1 (a3 + 2) (fun v28 => cV 10 a2 μ25 (bI (f_M_papers a2 v27 v28 μ25) (fun v30 μ29 => (if v26 = v30 then (k_L_law_18 E.2.2.2.2.2.2.2 E.2.2.2.2.2.2.1 a1 a2 n (a3 + 5) μ29) else (some (.inl 0, μ29))))))))))) else (if v2 = 3 then sI E.2.2.2.2.2.2.2 E.2.2.2.2.2.2.1 (a3 + 1) (fun v31 => sI E.2.2.2.2.2.2.2 E.2.2.2.2.2.2.1 (a3 + 2) (fun v32 => (if v32 = 0 then cV 9 a1 μ (bI (f_H_page a1 v31 0 μ) (fun v34 μ33 => sI E.2.2.2.2.2.2.2 E.2.2.2.2.2.2.1 (a3 + 1) (fun v35 => sI E.2.2.2.2.2.2.2 E.2.2.2.2.2.2.1 (a3 + 2) (fun v36 => (if v36 = 0 then cV 10 a2 μ33 (bI (f_M_page a2 v35 0 μ33) (fun v38 μ37 => (if v34 = v38 then (k_L_law_18 E.2.2.2.2.2.2.2 E.2.2.2.2.2.2.1 a1 a2 n (a3 + 5) μ37) else (some (.inl 0, μ37))))) else cV 10 a2 μ33 (bI (f_M_page a2 v35 1 μ33) (fun v40 μ39 => (if v34 = v40 then (k_L_law_18 E.2.2.2.2.2.2.2 E.2.2.2.2.2.2.1 a1 a2 n (a3 + 5) μ39) else (some (.inl 0, μ39)))))))))) else cV 9 a1 μ (bI (f_H_page a1 v31 1 μ) (fun v42 μ41 => sI E.2.2.2.2.2.2.2 E.2.2.2.2.2.2.1 (a3 + 1) (fun v43 => sI E.2.2.2.2.2.2.2 E.2.2.2.2.2.2.1 (a3 + 2) (fun v44 => (if v44 = 0 then cV 10 a2 μ41 (bI (f_M_page a2 v43 0 μ41) (fun v46 μ45 => (if v42 = v46 then (k_L_law_18 E.2.2.2.2.2.2.2 E.2.2.2.2.2.2.1 a1 a2 n (a3 + 5) μ45) else (some (.inl 0, μ45))))) else cV 10 a2 μ41 (bI (f_M_page a2 v43 1 μ41) (fun v48 μ47 => (if v42 = v48 then (k_L_law_18 E.2.2.2.2.2.2.2 E.2.2.2.2.2.2.1 a1 a2 n (a3 + 5) μ47) else (some (.inl 0, μ47))))))))))))) else (if v2 = 4 then sI E.2.2.2.2.2.2.2 E.2.2.2.2.2.2.1 (a3 + 1) (fun v49 => sI E.2.2.2.2.2.2.2 E.2.2.2.2.2.2.1 (a3 + 2) (fun v50 => cV 9 a1 μ (bI (f_H_partOf a1 v49 v50 μ) (fun v52 μ51 => sI E.2.2.2.2.2.2.2 E.2.2.2.2.2.2.1 (a3 + 1) (fun v53 => sI E.2.2.2.2.2.2.2 E.2.2.2.2.2.2.1 (a3 + 2) (fun v54 => cV 10 a2 μ51 (bI (f_M_partOf a2 v53 v54 μ51) (fun v56 μ55 => (if v52 = v56 then (k_L_law_18 E.2.2.2.2.2.2.2 E.2.2.2.2.2.2.1 a1 a2 n (a3 + 5) μ55) else (some (.inl 0, μ55))))))))))) else (if v2 = 5 then sI E.2.2.2.2.2.2.2 E.2.2.2.2.2.2.1 (a3 + 1) (fun v57 => sI E.2.2.2.2.2.2.2 E.2.2.2.2.2.2.1 (a3 + 2) (fun v58 => cV 9 a1 μ (bI (f_H_set a1 v57 v58 μ) (fun v60 μ59 => sI E.2.2.2.2.2.2.2 E.2.2.2.2.2.2.1 (a3 + 1) (fun v61 => sI E.2.2.2.2.2.2.2 E.2.2.2.2.2.2.1 (a3 + 2) (fun v62 => cV 10 a2 μ59 (bI (f_M_set a2 v61 v62 μ59) (fun v64 μ63 => (if v60 = v64 then (k_L_law_18 E.2.2.2.2.2.2.2 E.2.2.2.2.2.2.1 a1 a2 n (a3 + 5) μ63) else (some (.inl 0, μ63))))))))))) else (if v2 = 6 then sI E.2.2.2.2.2.2.2 E.2.2.2.2.2.2.1 (a3 + 1) (fun v65 => sI E.2.2.2.2.2.2.2 E.2.2.2.2.2.2.1 (a3 + 2) (fun v66 => cV 9 a1 μ (bI (f_H_chance a1 v65 v66 μ) (fun v68 μ67 => sI E.2.2.2.2.2.2.2 E.2.2.2.2.2.2.1 (a3 + 1) (fun v69 => sI E.2.2.2.2.2.2.2 E.2.2.2.2.2.2.1 (a3 + 2) (fun v70 => cV 10 a2 μ67 (bI (f_M_chance a2 v69 v70 μ67) (fun v72 μ71 => (if v68 = v72 then (k_L_law_18 E.2.2.2.2.2.2.2 E.2.2.2.2.2.2.1 a1 a2 n (a3 + 5) μ71) else (some (.inl 0, μ71))))))))))) else (if v2 = 7 then sI E.2.2.2.2.2.2.2 E.2.2.2.2.2.2.1 (a3 + 1) (fun v73 => sI E.2.2.2.2.2.2.2 E.2.2.2.2.2.2.1 (a3 + 2) (fun v74 => cV 9 a1 μ (bI (f_H_weak a1 v73 v74 μ) (fun v76 μ75 => sI E.2.2.2.2.2.2.2 E.2.2.2.2.2.2.1 (a3 + 1) (fun v77 => sI E.2.2.2.2.2.2.2 E.2.2.2.2.2.2.1 (a3 + 2) (fun v78 => cV 10 a2 μ75 (bI (f_M_weak a2 v77 v78 μ75) (fun v80 μ79 => (if v76 = v80 then (k_L_law_18 E.2.2.2.2.2.2.2 E.2.2.2.2.2.2.1 a1 a2 n (a3 + 5) μ79) else (some (.inl 0, μ79))))))))))) else (if v2 = 8 then sI E.2.2.2.2.2.2.2 E.2.2.2.2.2.2.1 (a3 + 1) (fun v81 => sI E.2.2.2.2.2.2.2 E.2.2.2.2.2.2.1 (a3 + 2) (fun v82 => cV 9 a1 μ (bI (f_H_tide a1 v81 v82 μ) (fun v84 μ83 => sI E.2.2.2.2.2.2.2 E.2.2.2.2.2.2.1 (a3 + 1) (fun v85 => sI E.2.2.2.2.2.2.2 E.2.2.2.2.2.2.1 (a3 + 2) (fun v86 => cV 10 a2 μ83 (bI (f_M_tide a2 v85 v86 μ83) (fun v88 μ87 => (if v84 = v88 then (k_L_law_18 E.2.2.2.2.2.2.2 E.2.2.2.2.2.2.1 a1 a2 n (a3 + 5) μ87) else (some (.inl 0, μ87))))))))))) else (if v2 = 9 then sI E.2.2.2.2.2.2.2 E.2.2.2.2.2.2.1 (a3 + 1) (fun v89 => sI E.2.2.2.2.2.2.2 E.2.2.2.2.2.2.1 (a3 + 2) (fun v90 => cV 9 a1 μ (bI (f_H_slip a1 v89 v90 μ) (fun v92 μ91 => sI E.2.2.2.2.2.2.2 E.2.2.2.2.2.2.1 (a3 + 1) (fun v93 => sI E.2.2.2.2.2.2.2 E.2.2.2.2.2.2.1 (a3 + 2) (fun v94 => cV 10 a2 μ91 (bI (f_M_slip a2 v93 v94 μ91) (fun v96 μ95 => (if v92 = v96 then (k_L_law_18 E.2.2.2.2.2.2.2 E.2.2.2.2.2.2.1 a1 a2 n (a3 + 5) μ95) else (some (.inl 0, μ95))))))))))) else (if v2 = 10 then sI E.2.2.2.2.2.2.2 E.2.2.2.2.2.2.1 (a3 + 1) (fun v97 => cV 9 a1 μ (bI (f_H_minutes a1 v97 μ) (fun v99 μ98 => sI E.2.2.2.2.2.2.2 E.2.2.2.2.2.2.1 (a3 + 1) (fun v100 => cV 10 a2 μ98 (bI (f_M_minutes a2 v100 μ98) (fun v102 μ101 => (if v99 = v102 then (k_L_law_18 E.2.2.2.2.2.2.2 E.2.2.2.2.2.2.1 a1 a2 n (a3 + 5) μ101) else (some (.inl 0, μ101))))))))) else (if v2 = 11 then sI E.2.2.2.2.2.2.2 E.2.2.2.2.2.2.1 (a3 + 1) (fun v103 => sI E.2.2.2.2.2.2.2 E.2.2.2.2.2.2.1 (a3 + 2) (fun v104 => cV 9 a1 μ (bI (f_H_boat a1 v103 v104 μ) (fun v106 μ105 => sI E.2.2.2.2.2.2.2 E.2.2.2.2.2.2.1 (a3 + 1) (fun v107 => sI E.2.2.2.2.2.2.2 E.2.2.2.2.2.2.1 (a3 + 2) (fun v108 => cV 10 a2 μ105 (bI (f_M_boat a2 v107 v108 μ105) (fun v110 μ109 => (if v106 = v110 then (k_L_law_18 E.2.2.2.2.2.2.2 E.2.2.2.2.2.2.1 a1 a2 n (a3 + 5) μ109) else (some (.inl 0, μ109))))))))))) else (if v2 = 12 then sI E.2.2.2.2.2.2.2 E.2.2.2.2.2.2.1 (a3 + 1) (fun v111 => sI E.2.2.2.2.2.2.2 E.2.2.2.2.2.2.1 (a3 + 2) (fun v112 => sI E.2.2.2.2.2.2.2 E.2.2.2.2.2.2.1 (a3 + 3) (fun v113 => cV 9 a1 μ (bI (f_H_speed a1 v111 v112 v113 μ) (fun v115 μ114 => sI E.2.2.2.2.2.2.2 E.2.2.2.2.2.2.1 (a3 + 1) (fun v116 => sI E.2.2.2.2.2.2.2 E.2.2.2.2.2.2.1 (a3 + 2) (fun v117 => sI E.2.2.2.2.2.2.2 E.2.2.2.2.2.2.1 (a3 + 3) (fun v118 => cV 10 a2 μ114 (bI (f_M_speed a2 v116 v117 v118 μ114) (fun v120 μ119 => (if v115 = v120 then (k_L_law_18 E.2.2.2.2.2.2.2 E.2.2.2.2.2.2.1 a1 a2 n (a3 + 5) μ119) else (some (.inl 0, μ119))))))))))))) else (if v2 = 13 then sI E.2.2.2.2.2.2.2 E.2.2.2.2.2.2.1 (a3 + 1) (fun v121 => sI E.2.2.2.2.2.2.2 E.2.2.2.2.2.2.1 (a3 + 2) (fun v122 => cV 9 a1 μ (bI (f_H_move a1 v121 v122 μ) (fun v124 μ123 => sI E.2.2.2.2.2.2.2 E.2.2.2.2.2.2.1 (a3 + 1) (fun v125 => sI E.2.2.2.2.2.2.2 E.2.2.2.2.2.2.1 (a3 + 2) (fun v126 => cV 10 a2 μ123 (bI (f_M_move a2 v125 v126 μ123) (fun v128 μ127 => (if v124 = v128 then (k_L_law_18 E.2.2.2.2.2.2.2 E.2.2.2.2.2.2.1 a1 a2 n (a3 + 5) μ127) else (some (.inl 0, μ127))))))))))) else (if v2 = 14 then sI E.2.2.2.2.2.2.2 E.2.2.2.2.2.2.1 (a3 + 1) (fun v129 => sI E.2.2.2.2.2.2.2 E.2.2.2.2.2.2.1 (a3 + 2) (fun v130 => sI E.2.2.2.2.2.2.2 E.2.2.2.2.2.2.1 (a3 + 3) (fun v131 => cV 9 a1 μ (bI (f_H_call a1 v129 v130 v131 μ) (fun v133 μ132 => sI E.2.2.2.2.2.2.2 E.2.2.2.2.2.2.1 (a3 + 1) (fun v134 => sI E.2.2.2.2.2.2.2 E.2.2.2.2.2.2.1 (a3 + 2) (fun v135 => sI E.2.2.2.2.2.2.2 E.2.2.2.2.2.2.1 (a3 + 3) (fun v136 => cV 10 a2 μ132 (bI (f_M_call a2 v134 v135 v136 μ132) (fun v138 μ137 => (if v133 = v138 then (k_L_law_18 E.2.2.2.2.2.2.2 E.2.2.2.2.2.2.1 a1 a2 n (a3 + 5) μ137) else (some (.inl 0, μ137))))))))))))) else (if v2 = 15 then sI E.2.2.2.2.2.2.2 E.2.2.2.2.2.2.1 (a3 + 1) (fun v139 => sI E.2.2.2.2.2.2.2 E.2.2.2.2.2.2.1 (a3 + 2) (fun v140 => sI E.2.2.2.2.2.2.2 E.2.2.2.2.2.2.1 (a3 + 3) (fun v141 => cV 9 a1 μ (bI (f_H_reach a1 v139 v140 v141 μ) (fun v143 μ142 => sI E.2.2.2.2.2.2.2 E.2.2.2.2.2.2.1 (a3 + 1) (fun v144 => sI E.2.2.2.2.2.2.2 E.2.2.2.2.2.2.1 (a3 + 2) (fun v145 => sI E.2.2.2.2.2.2.2 E.2.2.2.2.2.2.1 (a3 + 3) (fun v146 => cV 10 a2 μ142 (bI (f_M_reach a2 v144 v145 v146 μ142) (fun v148 μ147 => (if v143 = v148 then (k_L_law_18 E.2.2.2.2.2.2.2 E.2.2.2.2.2.2.1 a1 a2 n (a3 + 5) μ147) else (some (.inl 0, μ147))))))))))))) else (if v2 = 16 then sI E.2.2.2.2.2.2.2 E.2.2.2.2.2.2.1 (a3 + 1) (fun v149 => cV 9 a1 μ (bI (f_H_first a1 v149 μ) (fun v151 μ150 => sI E.2.2.2.2.2.2.2 E.2.2.2.2.2.2.1 (a3 + 1) (fun v152 => cV 10 a2 μ150 (bI (f_M_first a2 v152 μ150) (fun v154 μ153 => (if v151 = v154 then (k_L_law_18 E.2.2.2.2.2.2.2 E.2.2.2.2.2.2.1 a1 a2 n (a3 + 5) μ153) else (some (.inl 0, μ153))))))))) else (if v2 = 17 then sI E.2.2.2.2.2.2.2 E.2.2.2.2.2.2.1 (a3 + 1) (fun v155 => sI E.2.2.2.2.2.2.2 E.2.2.2.2.2.2.1 (a3 + 2) (fun v156 => sI E.2.2.2.2.2.2.2 E.2.2.2.2.2.2.1 (a3 + 3) (fun v157 => cV 9 a1 μ (bI (f_H_two a1 v155 v156 v157 μ) (fun v159 μ158 => sI E.2.2.2.2.2.2.2 E.2.2.2.2.2.2.1 (a3 + 1) (fun v160 => sI E.2.2.2.2.2.2.2 E.2.2.2.2.2.2.1 (a3 + 2) (fun v161 => sI E.2.2.2.2.2.2.2 E.2.2.2.2.2.2.1 (a3 + 3) (fun v162 => cV 10 a2 μ158 (bI (f_M_two a2 v160 v161 v162 μ158) (fun v164 μ163 => (if v159 = v164 then (k_L_law_18 E.2.2.2.2.2.2.2 E.2.2.2.2.2.2.1 a1 a2 n (a3 + 5) μ163) else (some (.inl 0, μ163))))))))))))) else (if v2 = 18 then sI E.2.2.2.2.2.2.2 E.2.2.2.2.2.2.1 (a3 + 1) (fun v165 => sI E.2.2.2.2.2.2.2 E.2.2.2.2.2.2.1 (a3 + 2) (fun v166 => sI E.2.2.2.2.2.2.2 E.2.2.2.2.2.2.1 (a3 + 3) (fun v167 => sI E.2.2.2.2.2.2.2 E.2.2.2.2.2.2.1 (a3 + 4) (fun v168 => (if v168 = 0 then cV 9 a1 μ (bI (f_H_send a1 v165 v166 v167 0 μ) (fun v170 μ169 => sI E.2.2.2.2.2.2.2 E.2.2.2.2.2.2.1 (a3 + 1) (fun v171 => sI E.2.2.2.2.2.2.2 E.2.2.2.2.2.2.1 (a3 + 2) (fun v172 => sI E.2.2.2.2.2.2.2 E.2.2.2.2.2.2.1 (a3 + 3) (fun v173 => sI E.2.2.2.2.2.2.2 E.2.2.2.2.2.2.1 (a3 + 4) (fun v174 => (if v174 = 0 then cV 10 a2 μ169 (bI (f_M_send a2 v171 v172 v173 0 μ169) (fun v176 μ175 => (if v170 = v176 then (k_L_law_18 E.2.2.2.2.2.2.2 E.2.2.2.2.2.2.1 a1 a2 n (a3 + 5) μ175) else (some (.inl 0, μ175))))) else cV 10 a2 μ169 (bI (f_M_send a2 v171 v172 v173 1 μ169) (fun v178 μ177 => (if v170 = v178 then (k_L_law_18 E.2.2.2.2.2.2.2 E.2.2.2.2.2.2.1 a1 a2 n (a3 + 5) μ177) else (some (.inl 0, μ177)))))))))))) else cV 9 a1 μ (bI (f_H_send a1 v165 v166 v167 1 μ) (fun v180 μ179 => sI E.2.2.2.2.2.2.2 E.2.2.2.2.2.2.1 (a3 + 1) (fun v181 => sI E.2.2.2.2.2.2.2 E.2.2.2.2.2.2.1 (a3 + 2) (fun v182 => sI E.2.2.2.2.2.2.2 E.2.2.2.2.2.2.1 (a3 + 3) (fun v183 => sI E.2.2.2.2.2.2.2 E.2.2.2.2.2.2.1 (a3 + 4) (fun v184 => (if v184 = 0 then cV 10 a2 μ179 (bI (f_M_send a2 v181 v182 v183 0 μ179) (fun v186 μ185 => (if v180 = v186 then (k_L_law_18 E.2.2.2.2.2.2.2 E.2.2.2.2.2.2.1 a1 a2 n (a3 + 5) μ185) else (some (.inl 0, μ185))))) else cV 10 a2 μ179 (bI (f_M_send a2 v181 v182 v183 1 μ179) (fun v188 μ187 => (if v180 = v188 then (k_L_law_18 E.2.2.2.2.2.2.2 E.2.2.2.2.2.2.1 a1 a2 n (a3 + 5) μ187) else (some (.inl 0, μ187))))))))))))))))) else (if v2 = 19 then sI E.2.2.2.2.2.2.2 E.2.2.2.2.2.2.1 (a3 + 1) (fun v189 => sI E.2.2.2.2.2.2.2 E.2.2.2.2.2.2.1 (a3 + 2) (fun v190 => cV 9 a1 μ (bI (f_H_log a1 v189 v190 μ) (fun v192 μ191 => sI E.2.2.2.2.2.2.2 E.2.2.2.2.2.2.1 (a3 + 1) (fun v193 => sI E.2.2.2.2.2.2.2 E.2.2.2.2.2.2.1 (a3 + 2) (fun v194 => cV 10 a2 μ191 (bI (f_M_log a2 v193 v194 μ191) (fun v196 μ195 => (if v192 = v196 then (k_L_law_18 E.2.2.2.2.2.2.2 E.2.2.2.2.2.2.1 a1 a2 n (a3 + 5) μ195) else (some (.inl 0, μ195))))))))))) else (if v2 = 20 then sI E.2.2.2.2.2.2.2 E.2.2.2.2.2.2.1 (a3 + 1) (fun v197 => cV 9 a1 μ (bI (f_H_covered a1 v197 μ) (fun v199 μ198 => sI E.2.2.2.2.2.2.2 E.2.2.2.2.2.2.1 (a3 + 1) (fun v200 => cV 10 a2 μ198 (bI (f_M_covered a2 v200 μ198) (fun v202 μ201 => (if v199 = v202 then (k_L_law_18 E.2.2.2.2.2.2.2 E.2.2.2.2.2.2.1 a1 a2 n (a3 + 5) μ201) else (some (.inl 0, μ201))))))))) else (if v2 = 21 then sI E.2.2.2.2.2.2.2 E.2.2.2.2.2.2.1 (a3 + 1) (fun v203 => cV 9 a1 μ (bI (f_H_flanks a1 v203 μ) (fun v205 μ204 => sI E.2.2.2.2.2.2.2 E.2.2.2.2.2.2.1 (a3 + 1) (fun v206 => cV 10 a2 μ204 (bI (f_M_flanks a2 v206 μ204) (fun v208 μ207 => (if v205 = v208 then (k_L_law_18 E.2.2.2.2.2.2.2 E.2.2.2.2.2.2.1 a1 a2 n (a3 + 5) μ207) else (some (.inl 0, μ207))))))))) else (if v2 = 22 then sI E.2.2.2.2.2.2.2 E.2.2.2.2.2.2.1 (a3 + 1) (fun v209 => cV 9 a1 μ (bI (f_H_flank a1 v209 μ) (fun v211 μ210 => sI E.2.2.2.2.2.2.2 E.2.2.2.2.2.2.1 (a3 + 1) (fun v212 => cV 10 a2 μ210 (bI (f_M_flank a2 v212 μ210) (fun v214 μ213 => (if v211 = v214 then (k_L_law_18 E.2.2.2.2.2.2.2 E.2.2.2.2.2.2.1 a1 a2 n (a3 + 5) μ213) else (some (.inl 0, μ213))))))))) else (if v2 = 23 then sI E.2.2.2.2.2.2.2 E.2.2.2.2.2.2.1 (a3 + 1) (fun v215 => sI E.2.2.2.2.2.2.2 E.2.2.2.2.2.2.1 (a3 + 2) (fun v216 => cV 9 a1 μ (bI (f_H_box a1 v215 v216 μ) (fun v218 μ217 => sI E.2.2.2.2.2.2.2 E.2.2.2.2.2.2.1 (a3 + 1) (fun v219 => sI E.2.2.2.2.2.2.2 E.2.2.2.2.2.2.1 (a3 + 2) (fun v220 => cV 10 a2 μ217 (bI (f_M_box a2 v219 v220 μ217) (fun v222 μ221 => (if v218 = v222 then (k_L_law_18 E.2.2.2.2.2.2.2 E.2.2.2.2.2.2.1 a1 a2 n (a3 + 5) μ221) else (some (.inl 0, μ221))))))))))) else (if v2 = 24 then sI E.2.2.2.2.2.2.2 E.2.2.2.2.2.2.1 (a3 + 1) (fun v223 => sI E.2.2.2.2.2.2.2 E.2.2.2.2.2.2.1 (a3 + 2) (fun v224 => cV 9 a1 μ (bI (f_H_look a1 v223 v224 μ) (fun v226 μ225 => sI E.2.2.2.2.2.2.2 E.2.2.2.2.2.2.1 (a3 + 1) (fun v227 => sI E.2.2.2.2.2.2.2 E.2.2.2.2.2.2.1 (a3 + 2) (fun v228 => cV 10 a2 μ225 (bI (f_M_look a2 v227 v228 μ225) (fun v230 μ229 => (if v226 = v230 then (k_L_law_18 E.2.2.2.2.2.2.2 E.2.2.2.2.2.2.1 a1 a2 n (a3 + 5) μ229) else (some (.inl 0, μ229))))))))))) else (if v2 = 25 then sI E.2.2.2.2.2.2.2 E.2.2.2.2.2.2.1 (a3 + 1) (fun v231 => sI E.2.2.2.2.2.2.2 E.2.2.2.2.2.2.1 (a3 + 2) (fun v232 => cV 9 a1 μ (bI (f_H_looks a1 v231 v232 μ) (fun v234 μ233 => sI E.2.2.2.2.2.2.2 E.2.2.2.2.2.2.1 (a3 + 1) (fun v235 => sI E.2.2.2.2.2.2.2 E.2.2.2.2.2.2.1 (a3 + 2) (fun v236 => cV 10 a2 μ233 (bI (f_M_looks a2 v235 v236 μ233) (fun v238 μ237 => (if v234 = v238 then (k_L_law_18 E.2.2.2.2.2.2.2 E.2.2.2.2.2.2.1 a1 a2 n (a3 + 5) μ237) else (some (.inl 0, μ237))))))))))) else (if v2 = 26 then sI E.2.2.2.2.2.2.2 E.2.2.2.2.2.2.1 (a3 + 1) (fun v239 => sI E.2.2.2.2.2.2.2 E.2.2.2.2.2.2.1 (a3 + 2) (fun v240 => sI E.2.2.2.2.2.2.2 E.2.2.2.2.2.2.1 (a3 + 3) (fun v241 => cV 9 a1 μ (bI (f_H_lookAt a1 v239 v240 v241 μ) (fun v243 μ242 => sI E.2.2.2.2.2.2.2 E.2.2.2.2.2.2.1 (a3 + 1) (fun v244 => sI E.2.2.2.2.2.2.2 E.2.2.2.2.2.2.1 (a3 + 2) (fun v245 => sI E.2.2.2.2.2.2.2 E.2.2.2.2.2.2.1 (a3 + 3) (fun v246 => cV 10 a2 μ242 (bI (f_M_lookAt a2 v244 v245 v246 μ242) (fun v248 μ247 => (if v243 = v248 then (k_L_law_18 E.2.2.2.2.2.2.2 E.2.2.2.2.2.2.1 a1 a2 n (a3 + 5) μ247) else (some (.inl 0, μ247))))))))))))) else (if v2 = 27 then sI E.2.2.2.2.2.2.2 E.2.2.2.2.2.2.1 (a3 + 1) (fun v249 => sI E.2.2.2.2.2.2.2 E.2.2.2.2.2.2.1 (a3 + 2) (fun v250 => cV 9 a1 μ (bI (f_H_rest a1 v249 v250 μ) (fun v252 μ251 => sI E.2.2.2.2.2.2.2 E.2.2.2.2.2.2.1 (a3 + 1) (fun v253 => sI E.2.2.2.2.2.2.2 E.2.2.2.2.2.2.1 (a3 + 2) (fun v254 => cV 10 a2 μ251 (bI (f_M_rest a2 v253 v254 μ251) (fun v256 μ255 => (if v252 = v256 then (k_L_law_18 E.2.2.2.2.2.2.2 E.2.2.2.2.2.2.1 a1 a2 n (a3 + 5) μ255) else (some (.inl 0, μ255))))))))))) else (if v2 = 28 then sI E.2.2.2.2.2.2.2 E.2.2.2.2.2.2.1 (a3 + 1) (fun v257 => sI E.2.2.2.2.2.2.2 E.2.2.2.2.2.2.1 (a3 + 2) (fun v258 => cV 9 a1 μ (bI (f_H_turn a1 v257 v258 μ) (fun v260 μ259 => sI E.2.2.2.2.2.2.2 E.2.2.2.2.2.2.1 (a3 + 1) (fun v261 => sI E.2.2.2.2.2.2.2 E.2.2.2.2.2.2.1 (a3 + 2) (fun v262 => cV 10 a2 μ259 (bI (f_M_turn a2 v261 v262 μ259) (fun v264 μ263 => (if v260 = v264 then (k_L_law_18 E.2.2.2.2.2.2.2 E.2.2.2.2.2.2.1 a1 a2 n (a3 + 5) μ263) else (some (.inl 0, μ263))))))))))) else (if v2 = 29 then sI E.2.2.2.2.2.2.2 E.2.2.2.2.2.2.1 (a3 + 1) (fun v265 => sI E.2.2.2.2.2.2.2 E.2.2.2.2.2.2.1 (a3 + 2) (fun v266 => cV 9 a1 μ (bI (f_H_personOf a1 v265 v266 μ) (fun v268 μ267 => sI E.2.2.2.2.2.2.2 E.2.2.2.2.2.2.1 (a3 + 1) (fun v269 => sI E.2.2.2.2.2.2.2 E.2.2.2.2.2.2.1 (a3 + 2) (fun v270 => cV 10 a2 μ267 (bI (f_M_personOf a2 v269 v270 μ267) (fun v272 μ271 => (if v268 = v272 then (k_L_law_18 E.2.2.2.2.2.2.2 E.2.2.2.2.2.2.1 a1 a2 n (a3 + 5) μ271) else (some (.inl 0, μ271))))))))))) else (if v2 = 30 then sI E.2.2.2.2.2.2.2 E.2.2.2.2.2.2.1 (a3 + 1) (fun v273 => cV 9 a1 μ (bI (f_H_count a1 v273 μ) (fun v275 μ274 => sI E.2.2.2.2.2.2.2 E.2.2.2.2.2.2.1 (a3 + 1) (fun v276 => cV 10 a2 μ274 (bI (f_M_count a2 v276 μ274) (fun v278 μ277 => (if v275 = v278 then (k_L_law_18 E.2.2.2.2.2.2.2 E.2.2.2.2.2.2.1 a1 a2 n (a3 + 5) μ277) else (some (.inl 0, μ277))))))))) else (k_L_law_18 E.2.2.2.2.2.2.2 E.2.2.2.2.2.2.1 a1 a2 n (a3 + 5) μ))))))))))))))))))))))))))))))))))))
    refine J_iload_n zd_L_law_18 rfl ?_
    refine J_aload_n zd_L_law_19 rfl ?_
    refine J_sL zd_L_law_20 ?_
    refine J_iconst (v := 5) zd_L_law_21 (by decide) ?_
    refine J_isub zd_L_law_22 ?_
    refine J_icmp_gt (tgt := 1263) zd_L_law_23 rfl ?_ ?_
    · refine J_iconst (v := 1) zd_L_law_1263 (by decide) ?_
      exact J_lawret zd_L_law_1264 rfl (by (try simp only [rmk, room_1]); omega) (by (try simp only [rmk, room_1]); omega)
    · refine J_aload_n zd_L_law_26 rfl ?_
      refine J_iload_n zd_L_law_27 rfl ?_
      refine J_sI zd_L_law_28 (fun v1 => ?_)
      refine J_bipush (v := 31) zd_L_law_29 (by decide) ?_
      refine J_iand zd_L_law_31 ?_
      refine J_nm (fun v2 => ?_)
      refine J_swc (v := 0) (fun q0 => ?_) (fun q0 => ?_)
      · refine J_swIn (v := 0) zd_L_law_32 q0 (by decide) (by decide) (off := 140) (tgt := 172) (by decide) rfl ?_
        refine J_aload_n zd_L_law_172 rfl ?_
        refine J_aload_n zd_L_law_173 rfl ?_
        refine J_iload_n zd_L_law_174 rfl ?_
        refine J_iconst (v := 1) zd_L_law_175 (by decide) ?_
        refine J_iadd zd_L_law_176 ?_
        refine J_sI zd_L_law_177 (fun v3 => ?_)
        refine J_aload_n zd_L_law_178 rfl ?_
        refine J_iload_n zd_L_law_179 rfl ?_
        refine J_iconst (v := 2) zd_L_law_180 (by decide) ?_
        refine J_iadd zd_L_law_181 ?_
        refine J_sI zd_L_law_182 (fun v4 => ?_)
        refine J_aload_n zd_L_law_183 rfl ?_
        refine J_iload_n zd_L_law_184 rfl ?_
        refine J_iconst (v := 3) zd_L_law_185 (by decide) ?_
        refine J_iadd zd_L_law_186 ?_
        refine J_sI zd_L_law_187 (fun v5 => ?_)
        refine J_callVi (ci := 9) (as := [.inl _, .inl _, .inl _]) zd_L_law_188 zm_H_station ⟨Nat.le_of_ble_eq_true rfl, Nat.le_of_ble_eq_true rfl⟩ zw_207 zw_208 zw_209 (by decide) rfl rfl (Nat.le_of_ble_eq_true rfl) ⟨by (try simp only [rmk, room_1]); omega, by (try simp only [rmk, room_1]); omega⟩ rfl rfl (c_H_station E _ _ _ _ _) (fun v7 μ6 => ?_)
        refine J_aload_n zd_L_law_191 rfl ?_
        refine J_aload_n zd_L_law_192 rfl ?_
        refine J_iload_n zd_L_law_193 rfl ?_
        refine J_iconst (v := 1) zd_L_law_194 (by decide) ?_
        refine J_iadd zd_L_law_195 ?_
        refine J_sI zd_L_law_196 (fun v8 => ?_)
        refine J_aload_n zd_L_law_197 rfl ?_
        refine J_iload_n zd_L_law_198 rfl ?_
        refine J_iconst (v := 2) zd_L_law_199 (by decide) ?_
        refine J_iadd zd_L_law_200 ?_
        refine J_sI zd_L_law_201 (fun v9 => ?_)
        refine J_aload_n zd_L_law_202 rfl ?_
        refine J_iload_n zd_L_law_203 rfl ?_
        refine J_iconst (v := 3) zd_L_law_204 (by decide) ?_
        refine J_iadd zd_L_law_205 ?_
        refine J_sI zd_L_law_206 (fun v10 => ?_)
        refine J_callVi (ci := 10) (as := [.inl _, .inl _, .inl _]) zd_L_law_207 zm_M_station ⟨Nat.le_of_ble_eq_true rfl, Nat.le_of_ble_eq_true rfl⟩ zw_814 zw_815 zw_816 (by decide) rfl rfl (Nat.le_of_ble_eq_true rfl) ⟨by (try simp only [rmk, room_1]); omega, by (try simp only [rmk, room_1]); omega⟩ rfl rfl (c_M_station E _ _ _ _ _) (fun v12 μ11 => ?_)
        refine J_icmp_eq (tgt := 1257) zd_L_law_210 rfl ?_ ?_
        · refine J_iinc (v := _ + 5) (lv' := [some _, some _, some _, some _]) zd_L_law_1257 (Nat.le_of_ble_eq_true rfl) rfl (by rfl) rfl ?_
          refine J_goto (tgt := 18) zd_L_law_1260 rfl ?_
          exact j_L_law_18 E _ _ _ _ _ _ _ (by (try simp only [rmk, room_1]); omega) (by (try simp only [rmk, room_1]); omega)
        · refine J_iconst (v := 0) zd_L_law_213 (by decide) ?_
          exact J_lawret zd_L_law_214 rfl (by (try simp only [rmk, room_1]); omega) (by (try simp only [rmk, room_1]); omega)
      · skip
        refine J_swc (v := 1) (fun q1 => ?_) (fun q1 => ?_)
        · refine J_swIn (v := 1) zd_L_law_32 q1 (by decide) (by decide) (off := 183) (tgt := 215) (by decide) rfl ?_
          refine J_aload_n zd_L_law_215 rfl ?_
          refine J_aload_n zd_L_law_216 rfl ?_
          refine J_iload_n zd_L_law_217 rfl ?_
          refine J_iconst (v := 1) zd_L_law_218 (by decide) ?_
          refine J_iadd zd_L_law_219 ?_
          refine J_sI zd_L_law_220 (fun v13 => ?_)
          refine J_aload_n zd_L_law_221 rfl ?_
          refine J_iload_n zd_L_law_222 rfl ?_
          refine J_iconst (v := 2) zd_L_law_223 (by decide) ?_
          refine J_iadd zd_L_law_224 ?_
          refine J_sI zd_L_law_225 (fun v14 => ?_)
          refine J_aload_n zd_L_law_226 rfl ?_
          refine J_iload_n zd_L_law_227 rfl ?_
          refine J_iconst (v := 3) zd_L_law_228 (by decide) ?_
          refine J_iadd zd_L_law_229 ?_
          refine J_sI zd_L_law_230 (fun v15 => ?_)
          refine J_callVi (ci := 9) (as := [.inl _, .inl _, .inl _]) zd_L_law_231 zm_H_person ⟨Nat.le_of_ble_eq_true rfl, Nat.le_of_ble_eq_true rfl⟩ zw_221 zw_222 zw_223 (by decide) rfl rfl (Nat.le_of_ble_eq_true rfl) ⟨by (try simp only [rmk, room_1]); omega, by (try simp only [rmk, room_1]); omega⟩ rfl rfl (c_H_person E _ _ _ _ _) (fun v17 μ16 => ?_)
          refine J_aload_n zd_L_law_234 rfl ?_
          refine J_aload_n zd_L_law_235 rfl ?_
          refine J_iload_n zd_L_law_236 rfl ?_
          refine J_iconst (v := 1) zd_L_law_237 (by decide) ?_
          refine J_iadd zd_L_law_238 ?_
          refine J_sI zd_L_law_239 (fun v18 => ?_)
          refine J_aload_n zd_L_law_240 rfl ?_
          refine J_iload_n zd_L_law_241 rfl ?_
          refine J_iconst (v := 2) zd_L_law_242 (by decide) ?_
          refine J_iadd zd_L_law_243 ?_
          refine J_sI zd_L_law_244 (fun v19 => ?_)
          refine J_aload_n zd_L_law_245 rfl ?_
          refine J_iload_n zd_L_law_246 rfl ?_
          refine J_iconst (v := 3) zd_L_law_247 (by decide) ?_
          refine J_iadd zd_L_law_248 ?_
          refine J_sI zd_L_law_249 (fun v20 => ?_)
          refine J_callVi (ci := 10) (as := [.inl _, .inl _, .inl _]) zd_L_law_250 zm_M_person ⟨Nat.le_of_ble_eq_true rfl, Nat.le_of_ble_eq_true rfl⟩ zw_825 zw_826 zw_827 (by decide) rfl rfl (Nat.le_of_ble_eq_true rfl) ⟨by (try simp only [rmk, room_1]); omega, by (try simp only [rmk, room_1]); omega⟩ rfl rfl (c_M_person E _ _ _ _ _) (fun v22 μ21 => ?_)
          refine J_icmp_eq (tgt := 1257) zd_L_law_253 rfl ?_ ?_
          · refine J_iinc (v := _ + 5) (lv' := [some _, some _, some _, some _]) zd_L_law_1257 (Nat.le_of_ble_eq_true rfl) rfl (by rfl) rfl ?_
            refine J_goto (tgt := 18) zd_L_law_1260 rfl ?_
            exact j_L_law_18 E _ _ _ _ _ _ _ (by (try simp only [rmk, room_1]); omega) (by (try simp only [rmk, room_1]); omega)
          · refine J_iconst (v := 0) zd_L_law_256 (by decide) ?_
            exact J_lawret zd_L_law_257 rfl (by (try simp only [rmk, room_1]); omega) (by (try simp only [rmk, room_1]); omega)
        · skip
          refine J_swc (v := 2) (fun q2 => ?_) (fun q2 => ?_)
          · refine J_swIn (v := 2) zd_L_law_32 q2 (by decide) (by decide) (off := 226) (tgt := 258) (by decide) rfl ?_
            refine J_aload_n zd_L_law_258 rfl ?_
            refine J_aload_n zd_L_law_259 rfl ?_
            refine J_iload_n zd_L_law_260 rfl ?_
            refine J_iconst (v := 1) zd_L_law_261 (by decide) ?_
            refine J_iadd zd_L_law_262 ?_
            refine J_sI zd_L_law_263 (fun v23 => ?_)
            refine J_aload_n zd_L_law_264 rfl ?_
            refine J_iload_n zd_L_law_265 rfl ?_
            refine J_iconst (v := 2) zd_L_law_266 (by decide) ?_
            refine J_iadd zd_L_law_267 ?_
            refine J_sI zd_L_law_268 (fun v24 => ?_)
            refine J_callVi (ci := 9) (as := [.inl _, .inl _]) zd_L_law_269 zm_H_papers ⟨Nat.le_of_ble_eq_true rfl, Nat.le_of_ble_eq_true rfl⟩ zw_319 zw_320 zw_321 (by decide) rfl rfl (Nat.le_of_ble_eq_true rfl) ⟨by (try simp only [rmk, room_1]); omega, by (try simp only [rmk, room_1]); omega⟩ rfl rfl (c_H_papers E _ _ _ _) (fun v26 μ25 => ?_)
            refine J_aload_n zd_L_law_272 rfl ?_
            refine J_aload_n zd_L_law_273 rfl ?_
            refine J_iload_n zd_L_law_274 rfl ?_
            refine J_iconst (v := 1) zd_L_law_275 (by decide) ?_
            refine J_iadd zd_L_law_276 ?_
            refine J_sI zd_L_law_277 (fun v27 => ?_)
            refine J_aload_n zd_L_law_278 rfl ?_
            refine J_iload_n zd_L_law_279 rfl ?_
            refine J_iconst (v := 2) zd_L_law_280 (by decide) ?_
            refine J_iadd zd_L_law_281 ?_
            refine J_sI zd_L_law_282 (fun v28 => ?_)
            refine J_callVi (ci := 10) (as := [.inl _, .inl _]) zd_L_law_283 zm_M_papers ⟨Nat.le_of_ble_eq_true rfl, Nat.le_of_ble_eq_true rfl⟩ zw_829 zw_830 zw_831 (by decide) rfl rfl (Nat.le_of_ble_eq_true rfl) ⟨by (try simp only [rmk, room_1]); omega, by (try simp only [rmk, room_1]); omega⟩ rfl rfl (c_M_papers E _ _ _ _) (fun v30 μ29 => ?_)
            refine J_icmp_eq (tgt := 1257) zd_L_law_286 rfl ?_ ?_
            · refine J_iinc (v := _ + 5) (lv' := [some _, some _, some _, some _]) zd_L_law_1257 (Nat.le_of_ble_eq_true rfl) rfl (by rfl) rfl ?_
              refine J_goto (tgt := 18) zd_L_law_1260 rfl ?_
              exact j_L_law_18 E _ _ _ _ _ _ _ (by (try simp only [rmk, room_1]); omega) (by (try simp only [rmk, room_1]); omega)
            · refine J_iconst (v := 0) zd_L_law_289 (by decide) ?_
              exact J_lawret zd_L_law_290 rfl (by (try simp only [rmk, room_1]); omega) (by (try simp only [rmk, room_1]); omega)
          · skip
            refine J_swc (v := 3) (fun q3 => ?_) (fun q3 => ?_)
            · refine J_swIn (v := 3) zd_L_law_32 q3 (by decide) (by decide) (off := 259) (tgt := 291) (by decide) rfl ?_
              refine J_aload_n zd_L_law_291 rfl ?_
              refine J_aload_n zd_L_law_292 rfl ?_
              refine J_iload_n zd_L_law_293 rfl ?_
              refine J_iconst (v := 1) zd_L_law_294 (by decide) ?_
              refine J_iadd zd_L_law_295 ?_
              refine J_sI zd_L_law_296 (fun v31 => ?_)
              refine J_aload_n zd_L_law_297 rfl ?_
              refine J_iload_n zd_L_law_298 rfl ?_
              refine J_iconst (v := 2) zd_L_law_299 (by decide) ?_
              refine J_iadd zd_L_law_300 ?_
              refine J_sI zd_L_law_301 (fun v32 => ?_)
              refine J_if_eq (tgt := 309) zd_L_law_302 rfl ?_ ?_
              · refine J_iconst (v := 0) zd_L_law_309 (by decide) ?_
                refine J_callVi (ci := 9) (as := [.inl _, .inl _]) zd_L_law_310 zm_H_page ⟨Nat.le_of_ble_eq_true rfl, Nat.le_of_ble_eq_true rfl⟩ zw_341 zw_342 zw_343 (by decide) rfl rfl (Nat.le_of_ble_eq_true rfl) ⟨by (try simp only [rmk, room_1]); omega, by (try simp only [rmk, room_1]); omega⟩ rfl rfl (c_H_page E _ _ _ _) (fun v34 μ33 => ?_)
                refine J_aload_n zd_L_law_313 rfl ?_
                refine J_aload_n zd_L_law_314 rfl ?_
                refine J_iload_n zd_L_law_315 rfl ?_
                refine J_iconst (v := 1) zd_L_law_316 (by decide) ?_
                refine J_iadd zd_L_law_317 ?_
                refine J_sI zd_L_law_318 (fun v35 => ?_)
                refine J_aload_n zd_L_law_319 rfl ?_
                refine J_iload_n zd_L_law_320 rfl ?_
                refine J_iconst (v := 2) zd_L_law_321 (by decide) ?_
                refine J_iadd zd_L_law_322 ?_
                refine J_sI zd_L_law_323 (fun v36 => ?_)
                refine J_if_eq (tgt := 331) zd_L_law_324 rfl ?_ ?_
                · refine J_iconst (v := 0) zd_L_law_331 (by decide) ?_
                  refine J_callVi (ci := 10) (as := [.inl _, .inl _]) zd_L_law_332 zm_M_page ⟨Nat.le_of_ble_eq_true rfl, Nat.le_of_ble_eq_true rfl⟩ zw_837 zw_838 zw_839 (by decide) rfl rfl (Nat.le_of_ble_eq_true rfl) ⟨by (try simp only [rmk, room_1]); omega, by (try simp only [rmk, room_1]); omega⟩ rfl rfl (c_M_page E _ _ _ _) (fun v38 μ37 => ?_)
                  refine J_icmp_eq (tgt := 1257) zd_L_law_335 rfl ?_ ?_
                  · refine J_iinc (v := _ + 5) (lv' := [some _, some _, some _, some _]) zd_L_law_1257 (Nat.le_of_ble_eq_true rfl) rfl (by rfl) rfl ?_
                    refine J_goto (tgt := 18) zd_L_law_1260 rfl ?_
                    exact j_L_law_18 E _ _ _ _ _ _ _ (by (try simp only [rmk, room_1]); omega) (by (try simp only [rmk, room_1]); omega)
                  · refine J_iconst (v := 0) zd_L_law_338 (by decide) ?_
                    exact J_lawret zd_L_law_339 rfl (by (try simp only [rmk, room_1]); omega) (by (try simp only [rmk, room_1]); omega)
                · refine J_iconst (v := 1) zd_L_law_327 (by decide) ?_
                  refine J_goto (tgt := 332) zd_L_law_328 rfl ?_
                  refine J_callVi (ci := 10) (as := [.inl _, .inl _]) zd_L_law_332 zm_M_page ⟨Nat.le_of_ble_eq_true rfl, Nat.le_of_ble_eq_true rfl⟩ zw_837 zw_838 zw_839 (by decide) rfl rfl (Nat.le_of_ble_eq_true rfl) ⟨by (try simp only [rmk, room_1]); omega, by (try simp only [rmk, room_1]); omega⟩ rfl rfl (c_M_page E _ _ _ _) (fun v40 μ39 => ?_)
                  refine J_icmp_eq (tgt := 1257) zd_L_law_335 rfl ?_ ?_
                  · refine J_iinc (v := _ + 5) (lv' := [some _, some _, some _, some _]) zd_L_law_1257 (Nat.le_of_ble_eq_true rfl) rfl (by rfl) rfl ?_
                    refine J_goto (tgt := 18) zd_L_law_1260 rfl ?_
                    exact j_L_law_18 E _ _ _ _ _ _ _ (by (try simp only [rmk, room_1]); omega) (by (try simp only [rmk, room_1]); omega)
                  · refine J_iconst (v := 0) zd_L_law_338 (by decide) ?_
                    exact J_lawret zd_L_law_339 rfl (by (try simp only [rmk, room_1]); omega) (by (try simp only [rmk, room_1]); omega)
              · refine J_iconst (v := 1) zd_L_law_305 (by decide) ?_
                refine J_goto (tgt := 310) zd_L_law_306 rfl ?_
                refine J_callVi (ci := 9) (as := [.inl _, .inl _]) zd_L_law_310 zm_H_page ⟨Nat.le_of_ble_eq_true rfl, Nat.le_of_ble_eq_true rfl⟩ zw_341 zw_342 zw_343 (by decide) rfl rfl (Nat.le_of_ble_eq_true rfl) ⟨by (try simp only [rmk, room_1]); omega, by (try simp only [rmk, room_1]); omega⟩ rfl rfl (c_H_page E _ _ _ _) (fun v42 μ41 => ?_)
                refine J_aload_n zd_L_law_313 rfl ?_
                refine J_aload_n zd_L_law_314 rfl ?_
                refine J_iload_n zd_L_law_315 rfl ?_
                refine J_iconst (v := 1) zd_L_law_316 (by decide) ?_
                refine J_iadd zd_L_law_317 ?_
                refine J_sI zd_L_law_318 (fun v43 => ?_)
                refine J_aload_n zd_L_law_319 rfl ?_
                refine J_iload_n zd_L_law_320 rfl ?_
                refine J_iconst (v := 2) zd_L_law_321 (by decide) ?_
                refine J_iadd zd_L_law_322 ?_
                refine J_sI zd_L_law_323 (fun v44 => ?_)
                refine J_if_eq (tgt := 331) zd_L_law_324 rfl ?_ ?_
                · refine J_iconst (v := 0) zd_L_law_331 (by decide) ?_
                  refine J_callVi (ci := 10) (as := [.inl _, .inl _]) zd_L_law_332 zm_M_page ⟨Nat.le_of_ble_eq_true rfl, Nat.le_of_ble_eq_true rfl⟩ zw_837 zw_838 zw_839 (by decide) rfl rfl (Nat.le_of_ble_eq_true rfl) ⟨by (try simp only [rmk, room_1]); omega, by (try simp only [rmk, room_1]); omega⟩ rfl rfl (c_M_page E _ _ _ _) (fun v46 μ45 => ?_)
                  refine J_icmp_eq (tgt := 1257) zd_L_law_335 rfl ?_ ?_
                  · refine J_iinc (v := _ + 5) (lv' := [some _, some _, some _, some _]) zd_L_law_1257 (Nat.le_of_ble_eq_true rfl) rfl (by rfl) rfl ?_
                    refine J_goto (tgt := 18) zd_L_law_1260 rfl ?_
                    exact j_L_law_18 E _ _ _ _ _ _ _ (by (try simp only [rmk, room_1]); omega) (by (try simp only [rmk, room_1]); omega)
                  · refine J_iconst (v := 0) zd_L_law_338 (by decide) ?_
                    exact J_lawret zd_L_law_339 rfl (by (try simp only [rmk, room_1]); omega) (by (try simp only [rmk, room_1]); omega)
                · refine J_iconst (v := 1) zd_L_law_327 (by decide) ?_
                  refine J_goto (tgt := 332) zd_L_law_328 rfl ?_
                  refine J_callVi (ci := 10) (as := [.inl _, .inl _]) zd_L_law_332 zm_M_page ⟨Nat.le_of_ble_eq_true rfl, Nat.le_of_ble_eq_true rfl⟩ zw_837 zw_838 zw_839 (by decide) rfl rfl (Nat.le_of_ble_eq_true rfl) ⟨by (try simp only [rmk, room_1]); omega, by (try simp only [rmk, room_1]); omega⟩ rfl rfl (c_M_page E _ _ _ _) (fun v48 μ47 => ?_)
                  refine J_icmp_eq (tgt := 1257) zd_L_law_335 rfl ?_ ?_
                  · refine J_iinc (v := _ + 5) (lv' := [some _, some _, some _, some _]) zd_L_law_1257 (Nat.le_of_ble_eq_true rfl) rfl (by rfl) rfl ?_
                    refine J_goto (tgt := 18) zd_L_law_1260 rfl ?_
                    exact j_L_law_18 E _ _ _ _ _ _ _ (by (try simp only [rmk, room_1]); omega) (by (try simp only [rmk, room_1]); omega)
                  · refine J_iconst (v := 0) zd_L_law_338 (by decide) ?_
                    exact J_lawret zd_L_law_339 rfl (by (try simp only [rmk, room_1]); omega) (by (try simp only [rmk, room_1]); omega)
            · skip
              refine J_swc (v := 4) (fun q4 => ?_) (fun q4 => ?_)
              · refine J_swIn (v := 4) zd_L_law_32 q4 (by decide) (by decide) (off := 308) (tgt := 340) (by decide) rfl ?_
                refine J_aload_n zd_L_law_340 rfl ?_
                refine J_aload_n zd_L_law_341 rfl ?_
                refine J_iload_n zd_L_law_342 rfl ?_
                refine J_iconst (v := 1) zd_L_law_343 (by decide) ?_
                refine J_iadd zd_L_law_344 ?_
                refine J_sI zd_L_law_345 (fun v49 => ?_)
                refine J_aload_n zd_L_law_346 rfl ?_
                refine J_iload_n zd_L_law_347 rfl ?_
                refine J_iconst (v := 2) zd_L_law_348 (by decide) ?_
                refine J_iadd zd_L_law_349 ?_
                refine J_sI zd_L_law_350 (fun v50 => ?_)
                refine J_callVi (ci := 9) (as := [.inl _, .inl _]) zd_L_law_351 zm_H_partOf ⟨Nat.le_of_ble_eq_true rfl, Nat.le_of_ble_eq_true rfl⟩ zw_349 zw_350 zw_351 (by decide) rfl rfl (Nat.le_of_ble_eq_true rfl) ⟨by (try simp only [rmk, room_1]); omega, by (try simp only [rmk, room_1]); omega⟩ rfl rfl (c_H_partOf E _ _ _ _) (fun v52 μ51 => ?_)
                refine J_aload_n zd_L_law_354 rfl ?_
                refine J_aload_n zd_L_law_355 rfl ?_
                refine J_iload_n zd_L_law_356 rfl ?_
                refine J_iconst (v := 1) zd_L_law_357 (by decide) ?_
                refine J_iadd zd_L_law_358 ?_
                refine J_sI zd_L_law_359 (fun v53 => ?_)
                refine J_aload_n zd_L_law_360 rfl ?_
                refine J_iload_n zd_L_law_361 rfl ?_
                refine J_iconst (v := 2) zd_L_law_362 (by decide) ?_
                refine J_iadd zd_L_law_363 ?_
                refine J_sI zd_L_law_364 (fun v54 => ?_)
                refine J_callVi (ci := 10) (as := [.inl _, .inl _]) zd_L_law_365 zm_M_partOf ⟨Nat.le_of_ble_eq_true rfl, Nat.le_of_ble_eq_true rfl⟩ zw_853 zw_854 zw_855 (by decide) rfl rfl (Nat.le_of_ble_eq_true rfl) ⟨by (try simp only [rmk, room_1]); omega, by (try simp only [rmk, room_1]); omega⟩ rfl rfl (c_M_partOf E _ _ _ _) (fun v56 μ55 => ?_)
                refine J_icmp_eq (tgt := 1257) zd_L_law_368 rfl ?_ ?_
                · refine J_iinc (v := _ + 5) (lv' := [some _, some _, some _, some _]) zd_L_law_1257 (Nat.le_of_ble_eq_true rfl) rfl (by rfl) rfl ?_
                  refine J_goto (tgt := 18) zd_L_law_1260 rfl ?_
                  exact j_L_law_18 E _ _ _ _ _ _ _ (by (try simp only [rmk, room_1]); omega) (by (try simp only [rmk, room_1]); omega)
                · refine J_iconst (v := 0) zd_L_law_371 (by decide) ?_
                  exact J_lawret zd_L_law_372 rfl (by (try simp only [rmk, room_1]); omega) (by (try simp only [rmk, room_1]); omega)
              · skip
                refine J_swc (v := 5) (fun q5 => ?_) (fun q5 => ?_)
                · refine J_swIn (v := 5) zd_L_law_32 q5 (by decide) (by decide) (off := 341) (tgt := 373) (by decide) rfl ?_
                  refine J_aload_n zd_L_law_373 rfl ?_
                  refine J_aload_n zd_L_law_374 rfl ?_
                  refine J_iload_n zd_L_law_375 rfl ?_
                  refine J_iconst (v := 1) zd_L_law_376 (by decide) ?_
                  refine J_iadd zd_L_law_377 ?_
                  refine J_sI zd_L_law_378 (fun v57 => ?_)
                  refine J_aload_n zd_L_law_379 rfl ?_
                  refine J_iload_n zd_L_law_380 rfl ?_
                  refine J_iconst (v := 2) zd_L_law_381 (by decide) ?_
                  refine J_iadd zd_L_law_382 ?_
                  refine J_sI zd_L_law_383 (fun v58 => ?_)
                  refine J_callVi (ci := 9) (as := [.inl _, .inl _]) zd_L_law_384 zm_H_set ⟨Nat.le_of_ble_eq_true rfl, Nat.le_of_ble_eq_true rfl⟩ zw_360 zw_361 zw_362 (by decide) rfl rfl (Nat.le_of_ble_eq_true rfl) ⟨by (try simp only [rmk, room_1]); omega, by (try simp only [rmk, room_1]); omega⟩ rfl rfl (c_H_set E _ _ _ _) (fun v60 μ59 => ?_)
                  refine J_aload_n zd_L_law_387 rfl ?_
                  refine J_aload_n zd_L_law_388 rfl ?_
                  refine J_iload_n zd_L_law_389 rfl ?_
                  refine J_iconst (v := 1) zd_L_law_390 (by decide) ?_
                  refine J_iadd zd_L_law_391 ?_
                  refine J_sI zd_L_law_392 (fun v61 => ?_)
                  refine J_aload_n zd_L_law_393 rfl ?_
                  refine J_iload_n zd_L_law_394 rfl ?_
                  refine J_iconst (v := 2) zd_L_law_395 (by decide) ?_
                  refine J_iadd zd_L_law_396 ?_
                  refine J_sI zd_L_law_397 (fun v62 => ?_)
                  refine J_callVi (ci := 10) (as := [.inl _, .inl _]) zd_L_law_398 zm_M_set ⟨Nat.le_of_ble_eq_true rfl, Nat.le_of_ble_eq_true rfl⟩ zw_864 zw_865 zw_866 (by decide) rfl rfl (Nat.le_of_ble_eq_true rfl) ⟨by (try simp only [rmk, room_1]); omega, by (try simp only [rmk, room_1]); omega⟩ rfl rfl (c_M_set E _ _ _ _) (fun v64 μ63 => ?_)
                  refine J_icmp_eq (tgt := 1257) zd_L_law_401 rfl ?_ ?_
                  · refine J_iinc (v := _ + 5) (lv' := [some _, some _, some _, some _]) zd_L_law_1257 (Nat.le_of_ble_eq_true rfl) rfl (by rfl) rfl ?_
                    refine J_goto (tgt := 18) zd_L_law_1260 rfl ?_
                    exact j_L_law_18 E _ _ _ _ _ _ _ (by (try simp only [rmk, room_1]); omega) (by (try simp only [rmk, room_1]); omega)
                  · refine J_iconst (v := 0) zd_L_law_404 (by decide) ?_
                    exact J_lawret zd_L_law_405 rfl (by (try simp only [rmk, room_1]); omega) (by (try simp only [rmk, room_1]); omega)
                · skip
                  refine J_swc (v := 6) (fun q6 => ?_) (fun q6 => ?_)
                  · refine J_swIn (v := 6) zd_L_law_32 q6 (by decide) (by decide) (off := 374) (tgt := 406) (by decide) rfl ?_
                    refine J_aload_n zd_L_law_406 rfl ?_
                    refine J_aload_n zd_L_law_407 rfl ?_
                    refine J_iload_n zd_L_law_408 rfl ?_
                    refine J_iconst (v := 1) zd_L_law_409 (by decide) ?_
                    refine J_iadd zd_L_law_410 ?_
                    refine J_sI zd_L_law_411 (fun v65 => ?_)
                    refine J_aload_n zd_L_law_412 rfl ?_
                    refine J_iload_n zd_L_law_413 rfl ?_
                    refine J_iconst (v := 2) zd_L_law_414 (by decide) ?_
                    refine J_iadd zd_L_law_415 ?_
                    refine J_sI zd_L_law_416 (fun v66 => ?_)
                    refine J_callVi (ci := 9) (as := [.inl _, .inl _]) zd_L_law_417 zm_H_chance ⟨Nat.le_of_ble_eq_true rfl, Nat.le_of_ble_eq_true rfl⟩ zw_364 zw_365 zw_366 (by decide) rfl rfl (Nat.le_of_ble_eq_true rfl) ⟨by (try simp only [rmk, room_1]); omega, by (try simp only [rmk, room_1]); omega⟩ rfl rfl (c_H_chance E _ _ _ _) (fun v68 μ67 => ?_)
                    refine J_aload_n zd_L_law_420 rfl ?_
                    refine J_aload_n zd_L_law_421 rfl ?_
                    refine J_iload_n zd_L_law_422 rfl ?_
                    refine J_iconst (v := 1) zd_L_law_423 (by decide) ?_
                    refine J_iadd zd_L_law_424 ?_
                    refine J_sI zd_L_law_425 (fun v69 => ?_)
                    refine J_aload_n zd_L_law_426 rfl ?_
                    refine J_iload_n zd_L_law_427 rfl ?_
                    refine J_iconst (v := 2) zd_L_law_428 (by decide) ?_
                    refine J_iadd zd_L_law_429 ?_
                    refine J_sI zd_L_law_430 (fun v70 => ?_)
                    refine J_callVi (ci := 10) (as := [.inl _, .inl _]) zd_L_law_431 zm_M_chance ⟨Nat.le_of_ble_eq_true rfl, Nat.le_of_ble_eq_true rfl⟩ zw_868 zw_869 zw_870 (by decide) rfl rfl (Nat.le_of_ble_eq_true rfl) ⟨by (try simp only [rmk, room_1]); omega, by (try simp only [rmk, room_1]); omega⟩ rfl rfl (c_M_chance E _ _ _ _) (fun v72 μ71 => ?_)
                    refine J_icmp_eq (tgt := 1257) zd_L_law_434 rfl ?_ ?_
                    · refine J_iinc (v := _ + 5) (lv' := [some _, some _, some _, some _]) zd_L_law_1257 (Nat.le_of_ble_eq_true rfl) rfl (by rfl) rfl ?_
                      refine J_goto (tgt := 18) zd_L_law_1260 rfl ?_
                      exact j_L_law_18 E _ _ _ _ _ _ _ (by (try simp only [rmk, room_1]); omega) (by (try simp only [rmk, room_1]); omega)
                    · refine J_iconst (v := 0) zd_L_law_437 (by decide) ?_
                      exact J_lawret zd_L_law_438 rfl (by (try simp only [rmk, room_1]); omega) (by (try simp only [rmk, room_1]); omega)
                  · skip
                    refine J_swc (v := 7) (fun q7 => ?_) (fun q7 => ?_)
                    · refine J_swIn (v := 7) zd_L_law_32 q7 (by decide) (by decide) (off := 407) (tgt := 439) (by decide) rfl ?_
                      refine J_aload_n zd_L_law_439 rfl ?_
                      refine J_aload_n zd_L_law_440 rfl ?_
                      refine J_iload_n zd_L_law_441 rfl ?_
                      refine J_iconst (v := 1) zd_L_law_442 (by decide) ?_
                      refine J_iadd zd_L_law_443 ?_
                      refine J_sI zd_L_law_444 (fun v73 => ?_)
                      refine J_aload_n zd_L_law_445 rfl ?_
                      refine J_iload_n zd_L_law_446 rfl ?_
                      refine J_iconst (v := 2) zd_L_law_447 (by decide) ?_
                      refine J_iadd zd_L_law_448 ?_
                      refine J_sI zd_L_law_449 (fun v74 => ?_)
                      refine J_callVi (ci := 9) (as := [.inl _, .inl _]) zd_L_law_450 zm_H_weak ⟨Nat.le_of_ble_eq_true rfl, Nat.le_of_ble_eq_true rfl⟩ zw_395 zw_396 zw_397 (by decide) rfl rfl (Nat.le_of_ble_eq_true rfl) ⟨by (try simp only [rmk, room_1]); omega, by (try simp only [rmk, room_1]); omega⟩ rfl rfl (c_H_weak E _ _ _ _) (fun v76 μ75 => ?_)
                      refine J_aload_n zd_L_law_453 rfl ?_
                      refine J_aload_n zd_L_law_454 rfl ?_
                      refine J_iload_n zd_L_law_455 rfl ?_
                      refine J_iconst (v := 1) zd_L_law_456 (by decide) ?_
                      refine J_iadd zd_L_law_457 ?_
                      refine J_sI zd_L_law_458 (fun v77 => ?_)
                      refine J_aload_n zd_L_law_459 rfl ?_
                      refine J_iload_n zd_L_law_460 rfl ?_
                      refine J_iconst (v := 2) zd_L_law_461 (by decide) ?_
                      refine J_iadd zd_L_law_462 ?_
                      refine J_sI zd_L_law_463 (fun v78 => ?_)
                      refine J_callVi (ci := 10) (as := [.inl _, .inl _]) zd_L_law_464 zm_M_weak ⟨Nat.le_of_ble_eq_true rfl, Nat.le_of_ble_eq_true rfl⟩ zw_887 zw_888 zw_889 (by decide) rfl rfl (Nat.le_of_ble_eq_true rfl) ⟨by (try simp only [rmk, room_1]); omega, by (try simp only [rmk, room_1]); omega⟩ rfl rfl (c_M_weak E _ _ _ _) (fun v80 μ79 => ?_)
                      refine J_icmp_eq (tgt := 1257) zd_L_law_467 rfl ?_ ?_
                      · refine J_iinc (v := _ + 5) (lv' := [some _, some _, some _, some _]) zd_L_law_1257 (Nat.le_of_ble_eq_true rfl) rfl (by rfl) rfl ?_
                        refine J_goto (tgt := 18) zd_L_law_1260 rfl ?_
                        exact j_L_law_18 E _ _ _ _ _ _ _ (by (try simp only [rmk, room_1]); omega) (by (try simp only [rmk, room_1]); omega)
                      · refine J_iconst (v := 0) zd_L_law_470 (by decide) ?_
                        exact J_lawret zd_L_law_471 rfl (by (try simp only [rmk, room_1]); omega) (by (try simp only [rmk, room_1]); omega)
                    · skip
                      refine J_swc (v := 8) (fun q8 => ?_) (fun q8 => ?_)
                      · refine J_swIn (v := 8) zd_L_law_32 q8 (by decide) (by decide) (off := 440) (tgt := 472) (by decide) rfl ?_
                        refine J_aload_n zd_L_law_472 rfl ?_
                        refine J_aload_n zd_L_law_473 rfl ?_
                        refine J_iload_n zd_L_law_474 rfl ?_
                        refine J_iconst (v := 1) zd_L_law_475 (by decide) ?_
                        refine J_iadd zd_L_law_476 ?_
                        refine J_sI zd_L_law_477 (fun v81 => ?_)
                        refine J_aload_n zd_L_law_478 rfl ?_
                        refine J_iload_n zd_L_law_479 rfl ?_
                        refine J_iconst (v := 2) zd_L_law_480 (by decide) ?_
                        refine J_iadd zd_L_law_481 ?_
                        refine J_sI zd_L_law_482 (fun v82 => ?_)
                        refine J_callVi (ci := 9) (as := [.inl _, .inl _]) zd_L_law_483 zm_H_tide ⟨Nat.le_of_ble_eq_true rfl, Nat.le_of_ble_eq_true rfl⟩ zw_400 zw_401 zw_402 (by decide) rfl rfl (Nat.le_of_ble_eq_true rfl) ⟨by (try simp only [rmk, room_1]); omega, by (try simp only [rmk, room_1]); omega⟩ rfl rfl (c_H_tide E _ _ _ _) (fun v84 μ83 => ?_)
                        refine J_aload_n zd_L_law_486 rfl ?_
                        refine J_aload_n zd_L_law_487 rfl ?_
                        refine J_iload_n zd_L_law_488 rfl ?_
                        refine J_iconst (v := 1) zd_L_law_489 (by decide) ?_
                        refine J_iadd zd_L_law_490 ?_
                        refine J_sI zd_L_law_491 (fun v85 => ?_)
                        refine J_aload_n zd_L_law_492 rfl ?_
                        refine J_iload_n zd_L_law_493 rfl ?_
                        refine J_iconst (v := 2) zd_L_law_494 (by decide) ?_
                        refine J_iadd zd_L_law_495 ?_
                        refine J_sI zd_L_law_496 (fun v86 => ?_)
                        refine J_callVi (ci := 10) (as := [.inl _, .inl _]) zd_L_law_497 zm_M_tide ⟨Nat.le_of_ble_eq_true rfl, Nat.le_of_ble_eq_true rfl⟩ zw_891 zw_892 zw_893 (by decide) rfl rfl (Nat.le_of_ble_eq_true rfl) ⟨by (try simp only [rmk, room_1]); omega, by (try simp only [rmk, room_1]); omega⟩ rfl rfl (c_M_tide E _ _ _ _) (fun v88 μ87 => ?_)
                        refine J_icmp_eq (tgt := 1257) zd_L_law_500 rfl ?_ ?_
                        · refine J_iinc (v := _ + 5) (lv' := [some _, some _, some _, some _]) zd_L_law_1257 (Nat.le_of_ble_eq_true rfl) rfl (by rfl) rfl ?_
                          refine J_goto (tgt := 18) zd_L_law_1260 rfl ?_
                          exact j_L_law_18 E _ _ _ _ _ _ _ (by (try simp only [rmk, room_1]); omega) (by (try simp only [rmk, room_1]); omega)
                        · refine J_iconst (v := 0) zd_L_law_503 (by decide) ?_
                          exact J_lawret zd_L_law_504 rfl (by (try simp only [rmk, room_1]); omega) (by (try simp only [rmk, room_1]); omega)
                      · skip
                        refine J_swc (v := 9) (fun q9 => ?_) (fun q9 => ?_)
                        · refine J_swIn (v := 9) zd_L_law_32 q9 (by decide) (by decide) (off := 473) (tgt := 505) (by decide) rfl ?_
                          refine J_aload_n zd_L_law_505 rfl ?_
                          refine J_aload_n zd_L_law_506 rfl ?_
                          refine J_iload_n zd_L_law_507 rfl ?_
                          refine J_iconst (v := 1) zd_L_law_508 (by decide) ?_
                          refine J_iadd zd_L_law_509 ?_
                          refine J_sI zd_L_law_510 (fun v89 => ?_)
                          refine J_aload_n zd_L_law_511 rfl ?_
                          refine J_iload_n zd_L_law_512 rfl ?_
                          refine J_iconst (v := 2) zd_L_law_513 (by decide) ?_
                          refine J_iadd zd_L_law_514 ?_
                          refine J_sI zd_L_law_515 (fun v90 => ?_)
                          refine J_callVi (ci := 9) (as := [.inl _, .inl _]) zd_L_law_516 zm_H_slip ⟨Nat.le_of_ble_eq_true rfl, Nat.le_of_ble_eq_true rfl⟩ zw_408 zw_409 zw_410 (by decide) rfl rfl (Nat.le_of_ble_eq_true rfl) ⟨by (try simp only [rmk, room_1]); omega, by (try simp only [rmk, room_1]); omega⟩ rfl rfl (c_H_slip E _ _ _ _) (fun v92 μ91 => ?_)
                          refine J_aload_n zd_L_law_519 rfl ?_
                          refine J_aload_n zd_L_law_520 rfl ?_
                          refine J_iload_n zd_L_law_521 rfl ?_
                          refine J_iconst (v := 1) zd_L_law_522 (by decide) ?_
                          refine J_iadd zd_L_law_523 ?_
                          refine J_sI zd_L_law_524 (fun v93 => ?_)
                          refine J_aload_n zd_L_law_525 rfl ?_
                          refine J_iload_n zd_L_law_526 rfl ?_
                          refine J_iconst (v := 2) zd_L_law_527 (by decide) ?_
                          refine J_iadd zd_L_law_528 ?_
                          refine J_sI zd_L_law_529 (fun v94 => ?_)
                          refine J_callVi (ci := 10) (as := [.inl _, .inl _]) zd_L_law_530 zm_M_slip ⟨Nat.le_of_ble_eq_true rfl, Nat.le_of_ble_eq_true rfl⟩ zw_895 zw_896 zw_897 (by decide) rfl rfl (Nat.le_of_ble_eq_true rfl) ⟨by (try simp only [rmk, room_1]); omega, by (try simp only [rmk, room_1]); omega⟩ rfl rfl (c_M_slip E _ _ _ _) (fun v96 μ95 => ?_)
                          refine J_icmp_eq (tgt := 1257) zd_L_law_533 rfl ?_ ?_
                          · refine J_iinc (v := _ + 5) (lv' := [some _, some _, some _, some _]) zd_L_law_1257 (Nat.le_of_ble_eq_true rfl) rfl (by rfl) rfl ?_
                            refine J_goto (tgt := 18) zd_L_law_1260 rfl ?_
                            exact j_L_law_18 E _ _ _ _ _ _ _ (by (try simp only [rmk, room_1]); omega) (by (try simp only [rmk, room_1]); omega)
                          · refine J_iconst (v := 0) zd_L_law_536 (by decide) ?_
                            exact J_lawret zd_L_law_537 rfl (by (try simp only [rmk, room_1]); omega) (by (try simp only [rmk, room_1]); omega)
                        · skip
                          refine J_swc (v := 10) (fun q10 => ?_) (fun q10 => ?_)
                          · refine J_swIn (v := 10) zd_L_law_32 q10 (by decide) (by decide) (off := 506) (tgt := 538) (by decide) rfl ?_
                            refine J_aload_n zd_L_law_538 rfl ?_
                            refine J_aload_n zd_L_law_539 rfl ?_
                            refine J_iload_n zd_L_law_540 rfl ?_
                            refine J_iconst (v := 1) zd_L_law_541 (by decide) ?_
                            refine J_iadd zd_L_law_542 ?_
                            refine J_sI zd_L_law_543 (fun v97 => ?_)
                            refine J_callVi (ci := 9) (as := [.inl _]) zd_L_law_544 zm_H_minutes ⟨Nat.le_of_ble_eq_true rfl, Nat.le_of_ble_eq_true rfl⟩ zw_423 zw_424 zw_425 (by decide) rfl rfl (Nat.le_of_ble_eq_true rfl) ⟨by (try simp only [rmk, room_1]); omega, by (try simp only [rmk, room_1]); omega⟩ rfl rfl (c_H_minutes E _ _ _) (fun v99 μ98 => ?_)
                            refine J_aload_n zd_L_law_547 rfl ?_
                            refine J_aload_n zd_L_law_548 rfl ?_
                            refine J_iload_n zd_L_law_549 rfl ?_
                            refine J_iconst (v := 1) zd_L_law_550 (by decide) ?_
                            refine J_iadd zd_L_law_551 ?_
                            refine J_sI zd_L_law_552 (fun v100 => ?_)
                            refine J_callVi (ci := 10) (as := [.inl _]) zd_L_law_553 zm_M_minutes ⟨Nat.le_of_ble_eq_true rfl, Nat.le_of_ble_eq_true rfl⟩ zw_907 zw_908 zw_909 (by decide) rfl rfl (Nat.le_of_ble_eq_true rfl) ⟨by (try simp only [rmk, room_1]); omega, by (try simp only [rmk, room_1]); omega⟩ rfl rfl (c_M_minutes E _ _ _) (fun v102 μ101 => ?_)
                            refine J_icmp_eq (tgt := 1257) zd_L_law_556 rfl ?_ ?_
                            · refine J_iinc (v := _ + 5) (lv' := [some _, some _, some _, some _]) zd_L_law_1257 (Nat.le_of_ble_eq_true rfl) rfl (by rfl) rfl ?_
                              refine J_goto (tgt := 18) zd_L_law_1260 rfl ?_
                              exact j_L_law_18 E _ _ _ _ _ _ _ (by (try simp only [rmk, room_1]); omega) (by (try simp only [rmk, room_1]); omega)
                            · refine J_iconst (v := 0) zd_L_law_559 (by decide) ?_
                              exact J_lawret zd_L_law_560 rfl (by (try simp only [rmk, room_1]); omega) (by (try simp only [rmk, room_1]); omega)
                          · skip
                            refine J_swc (v := 11) (fun q11 => ?_) (fun q11 => ?_)
                            · refine J_swIn (v := 11) zd_L_law_32 q11 (by decide) (by decide) (off := 529) (tgt := 561) (by decide) rfl ?_
                              refine J_aload_n zd_L_law_561 rfl ?_
                              refine J_aload_n zd_L_law_562 rfl ?_
                              refine J_iload_n zd_L_law_563 rfl ?_
                              refine J_iconst (v := 1) zd_L_law_564 (by decide) ?_
                              refine J_iadd zd_L_law_565 ?_
                              refine J_sI zd_L_law_566 (fun v103 => ?_)
                              refine J_aload_n zd_L_law_567 rfl ?_
                              refine J_iload_n zd_L_law_568 rfl ?_
                              refine J_iconst (v := 2) zd_L_law_569 (by decide) ?_
                              refine J_iadd zd_L_law_570 ?_
                              refine J_sI zd_L_law_571 (fun v104 => ?_)
                              refine J_callVi (ci := 9) (as := [.inl _, .inl _]) zd_L_law_572 zm_H_boat ⟨Nat.le_of_ble_eq_true rfl, Nat.le_of_ble_eq_true rfl⟩ zw_428 zw_429 zw_430 (by decide) rfl rfl (Nat.le_of_ble_eq_true rfl) ⟨by (try simp only [rmk, room_1]); omega, by (try simp only [rmk, room_1]); omega⟩ rfl rfl (c_H_boat E _ _ _ _) (fun v106 μ105 => ?_)
                              refine J_aload_n zd_L_law_575 rfl ?_
                              refine J_aload_n zd_L_law_576 rfl ?_
                              refine J_iload_n zd_L_law_577 rfl ?_
                              refine J_iconst (v := 1) zd_L_law_578 (by decide) ?_
                              refine J_iadd zd_L_law_579 ?_
                              refine J_sI zd_L_law_580 (fun v107 => ?_)
                              refine J_aload_n zd_L_law_581 rfl ?_
                              refine J_iload_n zd_L_law_582 rfl ?_
                              refine J_iconst (v := 2) zd_L_law_583 (by decide) ?_
                              refine J_iadd zd_L_law_584 ?_
                              refine J_sI zd_L_law_585 (fun v108 => ?_)
                              refine J_callVi (ci := 10) (as := [.inl _, .inl _]) zd_L_law_586 zm_M_boat ⟨Nat.le_of_ble_eq_true rfl, Nat.le_of_ble_eq_true rfl⟩ zw_912 zw_913 zw_914 (by decide) rfl rfl (Nat.le_of_ble_eq_true rfl) ⟨by (try simp only [rmk, room_1]); omega, by (try simp only [rmk, room_1]); omega⟩ rfl rfl (c_M_boat E _ _ _ _) (fun v110 μ109 => ?_)
                              refine J_icmp_eq (tgt := 1257) zd_L_law_589 rfl ?_ ?_
                              · refine J_iinc (v := _ + 5) (lv' := [some _, some _, some _, some _]) zd_L_law_1257 (Nat.le_of_ble_eq_true rfl) rfl (by rfl) rfl ?_
                                refine J_goto (tgt := 18) zd_L_law_1260 rfl ?_
                                exact j_L_law_18 E _ _ _ _ _ _ _ (by (try simp only [rmk, room_1]); omega) (by (try simp only [rmk, room_1]); omega)
                              · refine J_iconst (v := 0) zd_L_law_592 (by decide) ?_
                                exact J_lawret zd_L_law_593 rfl (by (try simp only [rmk, room_1]); omega) (by (try simp only [rmk, room_1]); omega)
                            · skip
                              refine J_swc (v := 12) (fun q12 => ?_) (fun q12 => ?_)
                              · refine J_swIn (v := 12) zd_L_law_32 q12 (by decide) (by decide) (off := 562) (tgt := 594) (by decide) rfl ?_
                                refine J_aload_n zd_L_law_594 rfl ?_
                                refine J_aload_n zd_L_law_595 rfl ?_
                                refine J_iload_n zd_L_law_596 rfl ?_
                                refine J_iconst (v := 1) zd_L_law_597 (by decide) ?_
                                refine J_iadd zd_L_law_598 ?_
                                refine J_sI zd_L_law_599 (fun v111 => ?_)
                                refine J_aload_n zd_L_law_600 rfl ?_
                                refine J_iload_n zd_L_law_601 rfl ?_
                                refine J_iconst (v := 2) zd_L_law_602 (by decide) ?_
                                refine J_iadd zd_L_law_603 ?_
                                refine J_sI zd_L_law_604 (fun v112 => ?_)
                                refine J_aload_n zd_L_law_605 rfl ?_
                                refine J_iload_n zd_L_law_606 rfl ?_
                                refine J_iconst (v := 3) zd_L_law_607 (by decide) ?_
                                refine J_iadd zd_L_law_608 ?_
                                refine J_sI zd_L_law_609 (fun v113 => ?_)
                                refine J_callVi (ci := 9) (as := [.inl _, .inl _, .inl _]) zd_L_law_610 zm_H_speed ⟨Nat.le_of_ble_eq_true rfl, Nat.le_of_ble_eq_true rfl⟩ zw_455 zw_456 zw_457 (by decide) rfl rfl (Nat.le_of_ble_eq_true rfl) ⟨by (try simp only [rmk, room_1]); omega, by (try simp only [rmk, room_1]); omega⟩ rfl rfl (c_H_speed E _ _ _ _ _) (fun v115 μ114 => ?_)
                                refine J_aload_n zd_L_law_613 rfl ?_
                                refine J_aload_n zd_L_law_614 rfl ?_
                                refine J_iload_n zd_L_law_615 rfl ?_
                                refine J_iconst (v := 1) zd_L_law_616 (by decide) ?_
                                refine J_iadd zd_L_law_617 ?_
                                refine J_sI zd_L_law_618 (fun v116 => ?_)
                                refine J_aload_n zd_L_law_619 rfl ?_
                                refine J_iload_n zd_L_law_620 rfl ?_
                                refine J_iconst (v := 2) zd_L_law_621 (by decide) ?_
                                refine J_iadd zd_L_law_622 ?_
                                refine J_sI zd_L_law_623 (fun v117 => ?_)
                                refine J_aload_n zd_L_law_624 rfl ?_
                                refine J_iload_n zd_L_law_625 rfl ?_
                                refine J_iconst (v := 3) zd_L_law_626 (by decide) ?_
                                refine J_iadd zd_L_law_627 ?_
                                refine J_sI zd_L_law_628 (fun v118 => ?_)
                                refine J_callVi (ci := 10) (as := [.inl _, .inl _, .inl _]) zd_L_law_629 zm_M_speed ⟨Nat.le_of_ble_eq_true rfl, Nat.le_of_ble_eq_true rfl⟩ zw_916 zw_917 zw_918 (by decide) rfl rfl (Nat.le_of_ble_eq_true rfl) ⟨by (try simp only [rmk, room_1]); omega, by (try simp only [rmk, room_1]); omega⟩ rfl rfl (c_M_speed E _ _ _ _ _) (fun v120 μ119 => ?_)
                                refine J_icmp_eq (tgt := 1257) zd_L_law_632 rfl ?_ ?_
                                · refine J_iinc (v := _ + 5) (lv' := [some _, some _, some _, some _]) zd_L_law_1257 (Nat.le_of_ble_eq_true rfl) rfl (by rfl) rfl ?_
                                  refine J_goto (tgt := 18) zd_L_law_1260 rfl ?_
                                  exact j_L_law_18 E _ _ _ _ _ _ _ (by (try simp only [rmk, room_1]); omega) (by (try simp only [rmk, room_1]); omega)
                                · refine J_iconst (v := 0) zd_L_law_635 (by decide) ?_
                                  exact J_lawret zd_L_law_636 rfl (by (try simp only [rmk, room_1]); omega) (by (try simp only [rmk, room_1]); omega)
                              · skip
                                refine J_swc (v := 13) (fun q13 => ?_) (fun q13 => ?_)
                                · refine J_swIn (v := 13) zd_L_law_32 q13 (by decide) (by decide) (off := 605) (tgt := 637) (by decide) rfl ?_
                                  refine J_aload_n zd_L_law_637 rfl ?_
                                  refine J_aload_n zd_L_law_638 rfl ?_
                                  refine J_iload_n zd_L_law_639 rfl ?_
                                  refine J_iconst (v := 1) zd_L_law_640 (by decide) ?_
                                  refine J_iadd zd_L_law_641 ?_
                                  refine J_sI zd_L_law_642 (fun v121 => ?_)
                                  refine J_aload_n zd_L_law_643 rfl ?_
                                  refine J_iload_n zd_L_law_644 rfl ?_
                                  refine J_iconst (v := 2) zd_L_law_645 (by decide) ?_
                                  refine J_iadd zd_L_law_646 ?_
                                  refine J_sI zd_L_law_647 (fun v122 => ?_)
                                  refine J_callVi (ci := 9) (as := [.inl _, .inl _]) zd_L_law_648 zm_H_move ⟨Nat.le_of_ble_eq_true rfl, Nat.le_of_ble_eq_true rfl⟩ zw_466 zw_467 zw_468 (by decide) rfl rfl (Nat.le_of_ble_eq_true rfl) ⟨by (try simp only [rmk, room_1]); omega, by (try simp only [rmk, room_1]); omega⟩ rfl rfl (c_H_move E _ _ _ _) (fun v124 μ123 => ?_)
                                  refine J_aload_n zd_L_law_651 rfl ?_
                                  refine J_aload_n zd_L_law_652 rfl ?_
                                  refine J_iload_n zd_L_law_653 rfl ?_
                                  refine J_iconst (v := 1) zd_L_law_654 (by decide) ?_
                                  refine J_iadd zd_L_law_655 ?_
                                  refine J_sI zd_L_law_656 (fun v125 => ?_)
                                  refine J_aload_n zd_L_law_657 rfl ?_
                                  refine J_iload_n zd_L_law_658 rfl ?_
                                  refine J_iconst (v := 2) zd_L_law_659 (by decide) ?_
                                  refine J_iadd zd_L_law_660 ?_
                                  refine J_sI zd_L_law_661 (fun v126 => ?_)
                                  refine J_callVi (ci := 10) (as := [.inl _, .inl _]) zd_L_law_662 zm_M_move ⟨Nat.le_of_ble_eq_true rfl, Nat.le_of_ble_eq_true rfl⟩ zw_924 zw_925 zw_926 (by decide) rfl rfl (Nat.le_of_ble_eq_true rfl) ⟨by (try simp only [rmk, room_1]); omega, by (try simp only [rmk, room_1]); omega⟩ rfl rfl (c_M_move E _ _ _ _) (fun v128 μ127 => ?_)
                                  refine J_icmp_eq (tgt := 1257) zd_L_law_665 rfl ?_ ?_
                                  · refine J_iinc (v := _ + 5) (lv' := [some _, some _, some _, some _]) zd_L_law_1257 (Nat.le_of_ble_eq_true rfl) rfl (by rfl) rfl ?_
                                    refine J_goto (tgt := 18) zd_L_law_1260 rfl ?_
                                    exact j_L_law_18 E _ _ _ _ _ _ _ (by (try simp only [rmk, room_1]); omega) (by (try simp only [rmk, room_1]); omega)
                                  · refine J_iconst (v := 0) zd_L_law_668 (by decide) ?_
                                    exact J_lawret zd_L_law_669 rfl (by (try simp only [rmk, room_1]); omega) (by (try simp only [rmk, room_1]); omega)
                                · skip
                                  refine J_swc (v := 14) (fun q14 => ?_) (fun q14 => ?_)
                                  · refine J_swIn (v := 14) zd_L_law_32 q14 (by decide) (by decide) (off := 638) (tgt := 670) (by decide) rfl ?_
                                    refine J_aload_n zd_L_law_670 rfl ?_
                                    refine J_aload_n zd_L_law_671 rfl ?_
                                    refine J_iload_n zd_L_law_672 rfl ?_
                                    refine J_iconst (v := 1) zd_L_law_673 (by decide) ?_
                                    refine J_iadd zd_L_law_674 ?_
                                    refine J_sI zd_L_law_675 (fun v129 => ?_)
                                    refine J_aload_n zd_L_law_676 rfl ?_
                                    refine J_iload_n zd_L_law_677 rfl ?_
                                    refine J_iconst (v := 2) zd_L_law_678 (by decide) ?_
                                    refine J_iadd zd_L_law_679 ?_
                                    refine J_sI zd_L_law_680 (fun v130 => ?_)
                                    refine J_aload_n zd_L_law_681 rfl ?_
                                    refine J_iload_n zd_L_law_682 rfl ?_
                                    refine J_iconst (v := 3) zd_L_law_683 (by decide) ?_
                                    refine J_iadd zd_L_law_684 ?_
                                    refine J_sI zd_L_law_685 (fun v131 => ?_)
                                    refine J_callVi (ci := 9) (as := [.inl _, .inl _, .inl _]) zd_L_law_686 zm_H_call ⟨Nat.le_of_ble_eq_true rfl, Nat.le_of_ble_eq_true rfl⟩ zw_474 zw_475 zw_476 (by decide) rfl rfl (Nat.le_of_ble_eq_true rfl) ⟨by (try simp only [rmk, room_1]); omega, by (try simp only [rmk, room_1]); omega⟩ rfl rfl (c_H_call E _ _ _ _ _) (fun v133 μ132 => ?_)
                                    refine J_aload_n zd_L_law_689 rfl ?_
                                    refine J_aload_n zd_L_law_690 rfl ?_
                                    refine J_iload_n zd_L_law_691 rfl ?_
                                    refine J_iconst (v := 1) zd_L_law_692 (by decide) ?_
                                    refine J_iadd zd_L_law_693 ?_
                                    refine J_sI zd_L_law_694 (fun v134 => ?_)
                                    refine J_aload_n zd_L_law_695 rfl ?_
                                    refine J_iload_n zd_L_law_696 rfl ?_
                                    refine J_iconst (v := 2) zd_L_law_697 (by decide) ?_
                                    refine J_iadd zd_L_law_698 ?_
                                    refine J_sI zd_L_law_699 (fun v135 => ?_)
                                    refine J_aload_n zd_L_law_700 rfl ?_
                                    refine J_iload_n zd_L_law_701 rfl ?_
                                    refine J_iconst (v := 3) zd_L_law_702 (by decide) ?_
                                    refine J_iadd zd_L_law_703 ?_
                                    refine J_sI zd_L_law_704 (fun v136 => ?_)
                                    refine J_callVi (ci := 10) (as := [.inl _, .inl _, .inl _]) zd_L_law_705 zm_M_call ⟨Nat.le_of_ble_eq_true rfl, Nat.le_of_ble_eq_true rfl⟩ zw_932 zw_933 zw_934 (by decide) rfl rfl (Nat.le_of_ble_eq_true rfl) ⟨by (try simp only [rmk, room_1]); omega, by (try simp only [rmk, room_1]); omega⟩ rfl rfl (c_M_call E _ _ _ _ _) (fun v138 μ137 => ?_)
                                    refine J_icmp_eq (tgt := 1257) zd_L_law_708 rfl ?_ ?_
                                    · refine J_iinc (v := _ + 5) (lv' := [some _, some _, some _, some _]) zd_L_law_1257 (Nat.le_of_ble_eq_true rfl) rfl (by rfl) rfl ?_
                                      refine J_goto (tgt := 18) zd_L_law_1260 rfl ?_
                                      exact j_L_law_18 E _ _ _ _ _ _ _ (by (try simp only [rmk, room_1]); omega) (by (try simp only [rmk, room_1]); omega)
                                    · refine J_iconst (v := 0) zd_L_law_711 (by decide) ?_
                                      exact J_lawret zd_L_law_712 rfl (by (try simp only [rmk, room_1]); omega) (by (try simp only [rmk, room_1]); omega)
                                  · skip
                                    refine J_swc (v := 15) (fun q15 => ?_) (fun q15 => ?_)
                                    · refine J_swIn (v := 15) zd_L_law_32 q15 (by decide) (by decide) (off := 681) (tgt := 713) (by decide) rfl ?_
                                      refine J_aload_n zd_L_law_713 rfl ?_
                                      refine J_aload_n zd_L_law_714 rfl ?_
                                      refine J_iload_n zd_L_law_715 rfl ?_
                                      refine J_iconst (v := 1) zd_L_law_716 (by decide) ?_
                                      refine J_iadd zd_L_law_717 ?_
                                      refine J_sI zd_L_law_718 (fun v139 => ?_)
                                      refine J_aload_n zd_L_law_719 rfl ?_
                                      refine J_iload_n zd_L_law_720 rfl ?_
                                      refine J_iconst (v := 2) zd_L_law_721 (by decide) ?_
                                      refine J_iadd zd_L_law_722 ?_
                                      refine J_sI zd_L_law_723 (fun v140 => ?_)
                                      refine J_aload_n zd_L_law_724 rfl ?_
                                      refine J_iload_n zd_L_law_725 rfl ?_
                                      refine J_iconst (v := 3) zd_L_law_726 (by decide) ?_
                                      refine J_iadd zd_L_law_727 ?_
                                      refine J_sI zd_L_law_728 (fun v141 => ?_)
                                      refine J_callVi (ci := 9) (as := [.inl _, .inl _, .inl _]) zd_L_law_729 zm_H_reach ⟨Nat.le_of_ble_eq_true rfl, Nat.le_of_ble_eq_true rfl⟩ zw_497 zw_498 zw_499 (by decide) rfl rfl (Nat.le_of_ble_eq_true rfl) ⟨by (try simp only [rmk, room_1]); omega, by (try simp only [rmk, room_1]); omega⟩ rfl rfl (c_H_reach E _ _ _ _ _) (fun v143 μ142 => ?_)
                                      refine J_aload_n zd_L_law_732 rfl ?_
                                      refine J_aload_n zd_L_law_733 rfl ?_
                                      refine J_iload_n zd_L_law_734 rfl ?_
                                      refine J_iconst (v := 1) zd_L_law_735 (by decide) ?_
                                      refine J_iadd zd_L_law_736 ?_
                                      refine J_sI zd_L_law_737 (fun v144 => ?_)
                                      refine J_aload_n zd_L_law_738 rfl ?_
                                      refine J_iload_n zd_L_law_739 rfl ?_
                                      refine J_iconst (v := 2) zd_L_law_740 (by decide) ?_
                                      refine J_iadd zd_L_law_741 ?_
                                      refine J_sI zd_L_law_742 (fun v145 => ?_)
                                      refine J_aload_n zd_L_law_743 rfl ?_
                                      refine J_iload_n zd_L_law_744 rfl ?_
                                      refine J_iconst (v := 3) zd_L_law_745 (by decide) ?_
                                      refine J_iadd zd_L_law_746 ?_
                                      refine J_sI zd_L_law_747 (fun v146 => ?_)
                                      refine J_callVi (ci := 10) (as := [.inl _, .inl _, .inl _]) zd_L_law_748 zm_M_reach ⟨Nat.le_of_ble_eq_true rfl, Nat.le_of_ble_eq_true rfl⟩ zw_936 zw_937 zw_938 (by decide) rfl rfl (Nat.le_of_ble_eq_true rfl) ⟨by (try simp only [rmk, room_1]); omega, by (try simp only [rmk, room_1]); omega⟩ rfl rfl (c_M_reach E _ _ _ _ _) (fun v148 μ147 => ?_)
                                      refine J_icmp_eq (tgt := 1257) zd_L_law_751 rfl ?_ ?_
                                      · refine J_iinc (v := _ + 5) (lv' := [some _, some _, some _, some _]) zd_L_law_1257 (Nat.le_of_ble_eq_true rfl) rfl (by rfl) rfl ?_
                                        refine J_goto (tgt := 18) zd_L_law_1260 rfl ?_
                                        exact j_L_law_18 E _ _ _ _ _ _ _ (by (try simp only [rmk, room_1]); omega) (by (try simp only [rmk, room_1]); omega)
                                      · refine J_iconst (v := 0) zd_L_law_754 (by decide) ?_
                                        exact J_lawret zd_L_law_755 rfl (by (try simp only [rmk, room_1]); omega) (by (try simp only [rmk, room_1]); omega)
                                    · skip
                                      refine J_swc (v := 16) (fun q16 => ?_) (fun q16 => ?_)
                                      · refine J_swIn (v := 16) zd_L_law_32 q16 (by decide) (by decide) (off := 724) (tgt := 756) (by decide) rfl ?_
                                        refine J_aload_n zd_L_law_756 rfl ?_
                                        refine J_aload_n zd_L_law_757 rfl ?_
                                        refine J_iload_n zd_L_law_758 rfl ?_
                                        refine J_iconst (v := 1) zd_L_law_759 (by decide) ?_
                                        refine J_iadd zd_L_law_760 ?_
                                        refine J_sI zd_L_law_761 (fun v149 => ?_)
                                        refine J_callVi (ci := 9) (as := [.inl _]) zd_L_law_762 zm_H_first ⟨Nat.le_of_ble_eq_true rfl, Nat.le_of_ble_eq_true rfl⟩ zw_528 zw_529 zw_530 (by decide) rfl rfl (Nat.le_of_ble_eq_true rfl) ⟨by (try simp only [rmk, room_1]); omega, by (try simp only [rmk, room_1]); omega⟩ rfl rfl (c_H_first E _ _ _) (fun v151 μ150 => ?_)
                                        refine J_aload_n zd_L_law_765 rfl ?_
                                        refine J_aload_n zd_L_law_766 rfl ?_
                                        refine J_iload_n zd_L_law_767 rfl ?_
                                        refine J_iconst (v := 1) zd_L_law_768 (by decide) ?_
                                        refine J_iadd zd_L_law_769 ?_
                                        refine J_sI zd_L_law_770 (fun v152 => ?_)
                                        refine J_callVi (ci := 10) (as := [.inl _]) zd_L_law_771 zm_M_first ⟨Nat.le_of_ble_eq_true rfl, Nat.le_of_ble_eq_true rfl⟩ zw_970 zw_971 zw_972 (by decide) rfl rfl (Nat.le_of_ble_eq_true rfl) ⟨by (try simp only [rmk, room_1]); omega, by (try simp only [rmk, room_1]); omega⟩ rfl rfl (c_M_first E _ _ _) (fun v154 μ153 => ?_)
                                        refine J_icmp_eq (tgt := 1257) zd_L_law_774 rfl ?_ ?_
                                        · refine J_iinc (v := _ + 5) (lv' := [some _, some _, some _, some _]) zd_L_law_1257 (Nat.le_of_ble_eq_true rfl) rfl (by rfl) rfl ?_
                                          refine J_goto (tgt := 18) zd_L_law_1260 rfl ?_
                                          exact j_L_law_18 E _ _ _ _ _ _ _ (by (try simp only [rmk, room_1]); omega) (by (try simp only [rmk, room_1]); omega)
                                        · refine J_iconst (v := 0) zd_L_law_777 (by decide) ?_
                                          exact J_lawret zd_L_law_778 rfl (by (try simp only [rmk, room_1]); omega) (by (try simp only [rmk, room_1]); omega)
                                      · skip
                                        refine J_swc (v := 17) (fun q17 => ?_) (fun q17 => ?_)
                                        · refine J_swIn (v := 17) zd_L_law_32 q17 (by decide) (by decide) (off := 747) (tgt := 779) (by decide) rfl ?_
                                          refine J_aload_n zd_L_law_779 rfl ?_
                                          refine J_aload_n zd_L_law_780 rfl ?_
                                          refine J_iload_n zd_L_law_781 rfl ?_
                                          refine J_iconst (v := 1) zd_L_law_782 (by decide) ?_
                                          refine J_iadd zd_L_law_783 ?_
                                          refine J_sI zd_L_law_784 (fun v155 => ?_)
                                          refine J_aload_n zd_L_law_785 rfl ?_
                                          refine J_iload_n zd_L_law_786 rfl ?_
                                          refine J_iconst (v := 2) zd_L_law_787 (by decide) ?_
                                          refine J_iadd zd_L_law_788 ?_
                                          refine J_sI zd_L_law_789 (fun v156 => ?_)
                                          refine J_aload_n zd_L_law_790 rfl ?_
                                          refine J_iload_n zd_L_law_791 rfl ?_
                                          refine J_iconst (v := 3) zd_L_law_792 (by decide) ?_
                                          refine J_iadd zd_L_law_793 ?_
                                          refine J_sI zd_L_law_794 (fun v157 => ?_)
                                          refine J_callVi (ci := 9) (as := [.inl _, .inl _, .inl _]) zd_L_law_795 zm_H_two ⟨Nat.le_of_ble_eq_true rfl, Nat.le_of_ble_eq_true rfl⟩ zw_532 zw_533 zw_534 (by decide) rfl rfl (Nat.le_of_ble_eq_true rfl) ⟨by (try simp only [rmk, room_1]); omega, by (try simp only [rmk, room_1]); omega⟩ rfl rfl (c_H_two E _ _ _ _ _) (fun v159 μ158 => ?_)
                                          refine J_aload_n zd_L_law_798 rfl ?_
                                          refine J_aload_n zd_L_law_799 rfl ?_
                                          refine J_iload_n zd_L_law_800 rfl ?_
                                          refine J_iconst (v := 1) zd_L_law_801 (by decide) ?_
                                          refine J_iadd zd_L_law_802 ?_
                                          refine J_sI zd_L_law_803 (fun v160 => ?_)
                                          refine J_aload_n zd_L_law_804 rfl ?_
                                          refine J_iload_n zd_L_law_805 rfl ?_
                                          refine J_iconst (v := 2) zd_L_law_806 (by decide) ?_
                                          refine J_iadd zd_L_law_807 ?_
                                          refine J_sI zd_L_law_808 (fun v161 => ?_)
                                          refine J_aload_n zd_L_law_809 rfl ?_
                                          refine J_iload_n zd_L_law_810 rfl ?_
                                          refine J_iconst (v := 3) zd_L_law_811 (by decide) ?_
                                          refine J_iadd zd_L_law_812 ?_
                                          refine J_sI zd_L_law_813 (fun v162 => ?_)
                                          refine J_callVi (ci := 10) (as := [.inl _, .inl _, .inl _]) zd_L_law_814 zm_M_two ⟨Nat.le_of_ble_eq_true rfl, Nat.le_of_ble_eq_true rfl⟩ zw_974 zw_975 zw_976 (by decide) rfl rfl (Nat.le_of_ble_eq_true rfl) ⟨by (try simp only [rmk, room_1]); omega, by (try simp only [rmk, room_1]); omega⟩ rfl rfl (c_M_two E _ _ _ _ _) (fun v164 μ163 => ?_)
                                          refine J_icmp_eq (tgt := 1257) zd_L_law_817 rfl ?_ ?_
                                          · refine J_iinc (v := _ + 5) (lv' := [some _, some _, some _, some _]) zd_L_law_1257 (Nat.le_of_ble_eq_true rfl) rfl (by rfl) rfl ?_
                                            refine J_goto (tgt := 18) zd_L_law_1260 rfl ?_
                                            exact j_L_law_18 E _ _ _ _ _ _ _ (by (try simp only [rmk, room_1]); omega) (by (try simp only [rmk, room_1]); omega)
                                          · refine J_iconst (v := 0) zd_L_law_820 (by decide) ?_
                                            exact J_lawret zd_L_law_821 rfl (by (try simp only [rmk, room_1]); omega) (by (try simp only [rmk, room_1]); omega)
                                        · skip
                                          refine J_swc (v := 18) (fun q18 => ?_) (fun q18 => ?_)
                                          · refine J_swIn (v := 18) zd_L_law_32 q18 (by decide) (by decide) (off := 790) (tgt := 822) (by decide) rfl ?_
                                            refine J_aload_n zd_L_law_822 rfl ?_
                                            refine J_aload_n zd_L_law_823 rfl ?_
                                            refine J_iload_n zd_L_law_824 rfl ?_
                                            refine J_iconst (v := 1) zd_L_law_825 (by decide) ?_
                                            refine J_iadd zd_L_law_826 ?_
                                            refine J_sI zd_L_law_827 (fun v165 => ?_)
                                            refine J_aload_n zd_L_law_828 rfl ?_
                                            refine J_iload_n zd_L_law_829 rfl ?_
                                            refine J_iconst (v := 2) zd_L_law_830 (by decide) ?_
                                            refine J_iadd zd_L_law_831 ?_
                                            refine J_sI zd_L_law_832 (fun v166 => ?_)
                                            refine J_aload_n zd_L_law_833 rfl ?_
                                            refine J_iload_n zd_L_law_834 rfl ?_
                                            refine J_iconst (v := 3) zd_L_law_835 (by decide) ?_
                                            refine J_iadd zd_L_law_836 ?_
                                            refine J_sI zd_L_law_837 (fun v167 => ?_)
                                            refine J_aload_n zd_L_law_838 rfl ?_
                                            refine J_iload_n zd_L_law_839 rfl ?_
                                            refine J_iconst (v := 4) zd_L_law_840 (by decide) ?_
                                            refine J_iadd zd_L_law_841 ?_
                                            refine J_sI zd_L_law_842 (fun v168 => ?_)
                                            refine J_if_eq (tgt := 850) zd_L_law_843 rfl ?_ ?_
                                            · refine J_iconst (v := 0) zd_L_law_850 (by decide) ?_
                                              refine J_callVi (ci := 9) (as := [.inl _, .inl _, .inl _, .inl _]) zd_L_law_851 zm_H_send ⟨Nat.le_of_ble_eq_true rfl, Nat.le_of_ble_eq_true rfl⟩ zw_549 zw_550 zw_551 (by decide) rfl rfl (Nat.le_of_ble_eq_true rfl) ⟨by (try simp only [rmk, room_1]); omega, by (try simp only [rmk, room_1]); omega⟩ rfl rfl (c_H_send E _ _ _ _ _ _) (fun v170 μ169 => ?_)
                                              refine J_aload_n zd_L_law_854 rfl ?_
                                              refine J_aload_n zd_L_law_855 rfl ?_
                                              refine J_iload_n zd_L_law_856 rfl ?_
                                              refine J_iconst (v := 1) zd_L_law_857 (by decide) ?_
                                              refine J_iadd zd_L_law_858 ?_
                                              refine J_sI zd_L_law_859 (fun v171 => ?_)
                                              refine J_aload_n zd_L_law_860 rfl ?_
                                              refine J_iload_n zd_L_law_861 rfl ?_
                                              refine J_iconst (v := 2) zd_L_law_862 (by decide) ?_
                                              refine J_iadd zd_L_law_863 ?_
                                              refine J_sI zd_L_law_864 (fun v172 => ?_)
                                              refine J_aload_n zd_L_law_865 rfl ?_
                                              refine J_iload_n zd_L_law_866 rfl ?_
                                              refine J_iconst (v := 3) zd_L_law_867 (by decide) ?_
                                              refine J_iadd zd_L_law_868 ?_
                                              refine J_sI zd_L_law_869 (fun v173 => ?_)
                                              refine J_aload_n zd_L_law_870 rfl ?_
                                              refine J_iload_n zd_L_law_871 rfl ?_
                                              refine J_iconst (v := 4) zd_L_law_872 (by decide) ?_
                                              refine J_iadd zd_L_law_873 ?_
                                              refine J_sI zd_L_law_874 (fun v174 => ?_)
                                              refine J_if_eq (tgt := 882) zd_L_law_875 rfl ?_ ?_
                                              · refine J_iconst (v := 0) zd_L_law_882 (by decide) ?_
                                                refine J_callVi (ci := 10) (as := [.inl _, .inl _, .inl _, .inl _]) zd_L_law_883 zm_M_send ⟨Nat.le_of_ble_eq_true rfl, Nat.le_of_ble_eq_true rfl⟩ zw_978 zw_979 zw_980 (by decide) rfl rfl (Nat.le_of_ble_eq_true rfl) ⟨by (try simp only [rmk, room_1]); omega, by (try simp only [rmk, room_1]); omega⟩ rfl rfl (c_M_send E _ _ _ _ _ _) (fun v176 μ175 => ?_)
                                                refine J_icmp_eq (tgt := 1257) zd_L_law_886 rfl ?_ ?_
                                                · refine J_iinc (v := _ + 5) (lv' := [some _, some _, some _, some _]) zd_L_law_1257 (Nat.le_of_ble_eq_true rfl) rfl (by rfl) rfl ?_
                                                  refine J_goto (tgt := 18) zd_L_law_1260 rfl ?_
                                                  exact j_L_law_18 E _ _ _ _ _ _ _ (by (try simp only [rmk, room_1]); omega) (by (try simp only [rmk, room_1]); omega)
                                                · refine J_iconst (v := 0) zd_L_law_889 (by decide) ?_
                                                  exact J_lawret zd_L_law_890 rfl (by (try simp only [rmk, room_1]); omega) (by (try simp only [rmk, room_1]); omega)
                                              · refine J_iconst (v := 1) zd_L_law_878 (by decide) ?_
                                                refine J_goto (tgt := 883) zd_L_law_879 rfl ?_
                                                refine J_callVi (ci := 10) (as := [.inl _, .inl _, .inl _, .inl _]) zd_L_law_883 zm_M_send ⟨Nat.le_of_ble_eq_true rfl, Nat.le_of_ble_eq_true rfl⟩ zw_978 zw_979 zw_980 (by decide) rfl rfl (Nat.le_of_ble_eq_true rfl) ⟨by (try simp only [rmk, room_1]); omega, by (try simp only [rmk, room_1]); omega⟩ rfl rfl (c_M_send E _ _ _ _ _ _) (fun v178 μ177 => ?_)
                                                refine J_icmp_eq (tgt := 1257) zd_L_law_886 rfl ?_ ?_
                                                · refine J_iinc (v := _ + 5) (lv' := [some _, some _, some _, some _]) zd_L_law_1257 (Nat.le_of_ble_eq_true rfl) rfl (by rfl) rfl ?_
                                                  refine J_goto (tgt := 18) zd_L_law_1260 rfl ?_
                                                  exact j_L_law_18 E _ _ _ _ _ _ _ (by (try simp only [rmk, room_1]); omega) (by (try simp only [rmk, room_1]); omega)
                                                · refine J_iconst (v := 0) zd_L_law_889 (by decide) ?_
                                                  exact J_lawret zd_L_law_890 rfl (by (try simp only [rmk, room_1]); omega) (by (try simp only [rmk, room_1]); omega)
                                            · refine J_iconst (v := 1) zd_L_law_846 (by decide) ?_
                                              refine J_goto (tgt := 851) zd_L_law_847 rfl ?_
                                              refine J_callVi (ci := 9) (as := [.inl _, .inl _, .inl _, .inl _]) zd_L_law_851 zm_H_send ⟨Nat.le_of_ble_eq_true rfl, Nat.le_of_ble_eq_true rfl⟩ zw_549 zw_550 zw_551 (by decide) rfl rfl (Nat.le_of_ble_eq_true rfl) ⟨by (try simp only [rmk, room_1]); omega, by (try simp only [rmk, room_1]); omega⟩ rfl rfl (c_H_send E _ _ _ _ _ _) (fun v180 μ179 => ?_)
                                              refine J_aload_n zd_L_law_854 rfl ?_
                                              refine J_aload_n zd_L_law_855 rfl ?_
                                              refine J_iload_n zd_L_law_856 rfl ?_
                                              refine J_iconst (v := 1) zd_L_law_857 (by decide) ?_
                                              refine J_iadd zd_L_law_858 ?_
                                              refine J_sI zd_L_law_859 (fun v181 => ?_)
                                              refine J_aload_n zd_L_law_860 rfl ?_
                                              refine J_iload_n zd_L_law_861 rfl ?_
                                              refine J_iconst (v := 2) zd_L_law_862 (by decide) ?_
                                              refine J_iadd zd_L_law_863 ?_
                                              refine J_sI zd_L_law_864 (fun v182 => ?_)
                                              refine J_aload_n zd_L_law_865 rfl ?_
                                              refine J_iload_n zd_L_law_866 rfl ?_
                                              refine J_iconst (v := 3) zd_L_law_867 (by decide) ?_
                                              refine J_iadd zd_L_law_868 ?_
                                              refine J_sI zd_L_law_869 (fun v183 => ?_)
                                              refine J_aload_n zd_L_law_870 rfl ?_
                                              refine J_iload_n zd_L_law_871 rfl ?_
                                              refine J_iconst (v := 4) zd_L_law_872 (by decide) ?_
                                              refine J_iadd zd_L_law_873 ?_
                                              refine J_sI zd_L_law_874 (fun v184 => ?_)
                                              refine J_if_eq (tgt := 882) zd_L_law_875 rfl ?_ ?_
                                              · refine J_iconst (v := 0) zd_L_law_882 (by decide) ?_
                                                refine J_callVi (ci := 10) (as := [.inl _, .inl _, .inl _, .inl _]) zd_L_law_883 zm_M_send ⟨Nat.le_of_ble_eq_true rfl, Nat.le_of_ble_eq_true rfl⟩ zw_978 zw_979 zw_980 (by decide) rfl rfl (Nat.le_of_ble_eq_true rfl) ⟨by (try simp only [rmk, room_1]); omega, by (try simp only [rmk, room_1]); omega⟩ rfl rfl (c_M_send E _ _ _ _ _ _) (fun v186 μ185 => ?_)
                                                refine J_icmp_eq (tgt := 1257) zd_L_law_886 rfl ?_ ?_
                                                · refine J_iinc (v := _ + 5) (lv' := [some _, some _, some _, some _]) zd_L_law_1257 (Nat.le_of_ble_eq_true rfl) rfl (by rfl) rfl ?_
                                                  refine J_goto (tgt := 18) zd_L_law_1260 rfl ?_
                                                  exact j_L_law_18 E _ _ _ _ _ _ _ (by (try simp only [rmk, room_1]); omega) (by (try simp only [rmk, room_1]); omega)
                                                · refine J_iconst (v := 0) zd_L_law_889 (by decide) ?_
                                                  exact J_lawret zd_L_law_890 rfl (by (try simp only [rmk, room_1]); omega) (by (try simp only [rmk, room_1]); omega)
                                              · refine J_iconst (v := 1) zd_L_law_878 (by decide) ?_
                                                refine J_goto (tgt := 883) zd_L_law_879 rfl ?_
                                                refine J_callVi (ci := 10) (as := [.inl _, .inl _, .inl _, .inl _]) zd_L_law_883 zm_M_send ⟨Nat.le_of_ble_eq_true rfl, Nat.le_of_ble_eq_true rfl⟩ zw_978 zw_979 zw_980 (by decide) rfl rfl (Nat.le_of_ble_eq_true rfl) ⟨by (try simp only [rmk, room_1]); omega, by (try simp only [rmk, room_1]); omega⟩ rfl rfl (c_M_send E _ _ _ _ _ _) (fun v188 μ187 => ?_)
                                                refine J_icmp_eq (tgt := 1257) zd_L_law_886 rfl ?_ ?_
                                                · refine J_iinc (v := _ + 5) (lv' := [some _, some _, some _, some _]) zd_L_law_1257 (Nat.le_of_ble_eq_true rfl) rfl (by rfl) rfl ?_
                                                  refine J_goto (tgt := 18) zd_L_law_1260 rfl ?_
                                                  exact j_L_law_18 E _ _ _ _ _ _ _ (by (try simp only [rmk, room_1]); omega) (by (try simp only [rmk, room_1]); omega)
                                                · refine J_iconst (v := 0) zd_L_law_889 (by decide) ?_
                                                  exact J_lawret zd_L_law_890 rfl (by (try simp only [rmk, room_1]); omega) (by (try simp only [rmk, room_1]); omega)
                                          · skip
                                            refine J_swc (v := 19) (fun q19 => ?_) (fun q19 => ?_)
                                            · refine J_swIn (v := 19) zd_L_law_32 q19 (by decide) (by decide) (off := 859) (tgt := 891) (by decide) rfl ?_
                                              refine J_aload_n zd_L_law_891 rfl ?_
                                              refine J_aload_n zd_L_law_892 rfl ?_
                                              refine J_iload_n zd_L_law_893 rfl ?_
                                              refine J_iconst (v := 1) zd_L_law_894 (by decide) ?_
                                              refine J_iadd zd_L_law_895 ?_
                                              refine J_sI zd_L_law_896 (fun v189 => ?_)
                                              refine J_aload_n zd_L_law_897 rfl ?_
                                              refine J_iload_n zd_L_law_898 rfl ?_
                                              refine J_iconst (v := 2) zd_L_law_899 (by decide) ?_
                                              refine J_iadd zd_L_law_900 ?_
                                              refine J_sI zd_L_law_901 (fun v190 => ?_)
                                              refine J_callVi (ci := 9) (as := [.inl _, .inl _]) zd_L_law_902 zm_H_log ⟨Nat.le_of_ble_eq_true rfl, Nat.le_of_ble_eq_true rfl⟩ zw_575 zw_576 zw_577 (by decide) rfl rfl (Nat.le_of_ble_eq_true rfl) ⟨by (try simp only [rmk, room_1]); omega, by (try simp only [rmk, room_1]); omega⟩ rfl rfl (c_H_log E _ _ _ _) (fun v192 μ191 => ?_)
                                              refine J_aload_n zd_L_law_905 rfl ?_
                                              refine J_aload_n zd_L_law_906 rfl ?_
                                              refine J_iload_n zd_L_law_907 rfl ?_
                                              refine J_iconst (v := 1) zd_L_law_908 (by decide) ?_
                                              refine J_iadd zd_L_law_909 ?_
                                              refine J_sI zd_L_law_910 (fun v193 => ?_)
                                              refine J_aload_n zd_L_law_911 rfl ?_
                                              refine J_iload_n zd_L_law_912 rfl ?_
                                              refine J_iconst (v := 2) zd_L_law_913 (by decide) ?_
                                              refine J_iadd zd_L_law_914 ?_
                                              refine J_sI zd_L_law_915 (fun v194 => ?_)
                                              refine J_callVi (ci := 10) (as := [.inl _, .inl _]) zd_L_law_916 zm_M_log ⟨Nat.le_of_ble_eq_true rfl, Nat.le_of_ble_eq_true rfl⟩ zw_982 zw_983 zw_984 (by decide) rfl rfl (Nat.le_of_ble_eq_true rfl) ⟨by (try simp only [rmk, room_1]); omega, by (try simp only [rmk, room_1]); omega⟩ rfl rfl (c_M_log E _ _ _ _) (fun v196 μ195 => ?_)
                                              refine J_icmp_eq (tgt := 1257) zd_L_law_919 rfl ?_ ?_
                                              · refine J_iinc (v := _ + 5) (lv' := [some _, some _, some _, some _]) zd_L_law_1257 (Nat.le_of_ble_eq_true rfl) rfl (by rfl) rfl ?_
                                                refine J_goto (tgt := 18) zd_L_law_1260 rfl ?_
                                                exact j_L_law_18 E _ _ _ _ _ _ _ (by (try simp only [rmk, room_1]); omega) (by (try simp only [rmk, room_1]); omega)
                                              · refine J_iconst (v := 0) zd_L_law_922 (by decide) ?_
                                                exact J_lawret zd_L_law_923 rfl (by (try simp only [rmk, room_1]); omega) (by (try simp only [rmk, room_1]); omega)
                                            · skip
                                              refine J_swc (v := 20) (fun q20 => ?_) (fun q20 => ?_)
                                              · refine J_swIn (v := 20) zd_L_law_32 q20 (by decide) (by decide) (off := 892) (tgt := 924) (by decide) rfl ?_
                                                refine J_aload_n zd_L_law_924 rfl ?_
                                                refine J_aload_n zd_L_law_925 rfl ?_
                                                refine J_iload_n zd_L_law_926 rfl ?_
                                                refine J_iconst (v := 1) zd_L_law_927 (by decide) ?_
                                                refine J_iadd zd_L_law_928 ?_
                                                refine J_sI zd_L_law_929 (fun v197 => ?_)
                                                refine J_callVi (ci := 9) (as := [.inl _]) zd_L_law_930 zm_H_covered ⟨Nat.le_of_ble_eq_true rfl, Nat.le_of_ble_eq_true rfl⟩ zw_583 zw_584 zw_585 (by decide) rfl rfl (Nat.le_of_ble_eq_true rfl) ⟨by (try simp only [rmk, room_1]); omega, by (try simp only [rmk, room_1]); omega⟩ rfl rfl (c_H_covered E _ _ _) (fun v199 μ198 => ?_)
                                                refine J_aload_n zd_L_law_933 rfl ?_
                                                refine J_aload_n zd_L_law_934 rfl ?_
                                                refine J_iload_n zd_L_law_935 rfl ?_
                                                refine J_iconst (v := 1) zd_L_law_936 (by decide) ?_
                                                refine J_iadd zd_L_law_937 ?_
                                                refine J_sI zd_L_law_938 (fun v200 => ?_)
                                                refine J_callVi (ci := 10) (as := [.inl _]) zd_L_law_939 zm_M_covered ⟨Nat.le_of_ble_eq_true rfl, Nat.le_of_ble_eq_true rfl⟩ zw_986 zw_987 zw_988 (by decide) rfl rfl (Nat.le_of_ble_eq_true rfl) ⟨by (try simp only [rmk, room_1]); omega, by (try simp only [rmk, room_1]); omega⟩ rfl rfl (c_M_covered E _ _ _) (fun v202 μ201 => ?_)
                                                refine J_icmp_eq (tgt := 1257) zd_L_law_942 rfl ?_ ?_
                                                · refine J_iinc (v := _ + 5) (lv' := [some _, some _, some _, some _]) zd_L_law_1257 (Nat.le_of_ble_eq_true rfl) rfl (by rfl) rfl ?_
                                                  refine J_goto (tgt := 18) zd_L_law_1260 rfl ?_
                                                  exact j_L_law_18 E _ _ _ _ _ _ _ (by (try simp only [rmk, room_1]); omega) (by (try simp only [rmk, room_1]); omega)
                                                · refine J_iconst (v := 0) zd_L_law_945 (by decide) ?_
                                                  exact J_lawret zd_L_law_946 rfl (by (try simp only [rmk, room_1]); omega) (by (try simp only [rmk, room_1]); omega)
                                              · skip
                                                refine J_swc (v := 21) (fun q21 => ?_) (fun q21 => ?_)
                                                · refine J_swIn (v := 21) zd_L_law_32 q21 (by decide) (by decide) (off := 915) (tgt := 947) (by decide) rfl ?_
                                                  refine J_aload_n zd_L_law_947 rfl ?_
                                                  refine J_aload_n zd_L_law_948 rfl ?_
                                                  refine J_iload_n zd_L_law_949 rfl ?_
                                                  refine J_iconst (v := 1) zd_L_law_950 (by decide) ?_
                                                  refine J_iadd zd_L_law_951 ?_
                                                  refine J_sI zd_L_law_952 (fun v203 => ?_)
                                                  refine J_callVi (ci := 9) (as := [.inl _]) zd_L_law_953 zm_H_flanks ⟨Nat.le_of_ble_eq_true rfl, Nat.le_of_ble_eq_true rfl⟩ zw_591 zw_592 zw_593 (by decide) rfl rfl (Nat.le_of_ble_eq_true rfl) ⟨by (try simp only [rmk, room_1]); omega, by (try simp only [rmk, room_1]); omega⟩ rfl rfl (c_H_flanks E _ _ _) (fun v205 μ204 => ?_)
                                                  refine J_aload_n zd_L_law_956 rfl ?_
                                                  refine J_aload_n zd_L_law_957 rfl ?_
                                                  refine J_iload_n zd_L_law_958 rfl ?_
                                                  refine J_iconst (v := 1) zd_L_law_959 (by decide) ?_
                                                  refine J_iadd zd_L_law_960 ?_
                                                  refine J_sI zd_L_law_961 (fun v206 => ?_)
                                                  refine J_callVi (ci := 10) (as := [.inl _]) zd_L_law_962 zm_M_flanks ⟨Nat.le_of_ble_eq_true rfl, Nat.le_of_ble_eq_true rfl⟩ zw_994 zw_995 zw_996 (by decide) rfl rfl (Nat.le_of_ble_eq_true rfl) ⟨by (try simp only [rmk, room_1]); omega, by (try simp only [rmk, room_1]); omega⟩ rfl rfl (c_M_flanks E _ _ _) (fun v208 μ207 => ?_)
                                                  refine J_icmp_eq (tgt := 1257) zd_L_law_965 rfl ?_ ?_
                                                  · refine J_iinc (v := _ + 5) (lv' := [some _, some _, some _, some _]) zd_L_law_1257 (Nat.le_of_ble_eq_true rfl) rfl (by rfl) rfl ?_
                                                    refine J_goto (tgt := 18) zd_L_law_1260 rfl ?_
                                                    exact j_L_law_18 E _ _ _ _ _ _ _ (by (try simp only [rmk, room_1]); omega) (by (try simp only [rmk, room_1]); omega)
                                                  · refine J_iconst (v := 0) zd_L_law_968 (by decide) ?_
                                                    exact J_lawret zd_L_law_969 rfl (by (try simp only [rmk, room_1]); omega) (by (try simp only [rmk, room_1]); omega)
                                                · skip
                                                  refine J_swc (v := 22) (fun q22 => ?_) (fun q22 => ?_)
                                                  · refine J_swIn (v := 22) zd_L_law_32 q22 (by decide) (by decide) (off := 938) (tgt := 970) (by decide) rfl ?_
                                                    refine J_aload_n zd_L_law_970 rfl ?_
                                                    refine J_aload_n zd_L_law_971 rfl ?_
                                                    refine J_iload_n zd_L_law_972 rfl ?_
                                                    refine J_iconst (v := 1) zd_L_law_973 (by decide) ?_
                                                    refine J_iadd zd_L_law_974 ?_
                                                    refine J_sI zd_L_law_975 (fun v209 => ?_)
                                                    refine J_callVi (ci := 9) (as := [.inl _]) zd_L_law_976 zm_H_flank ⟨Nat.le_of_ble_eq_true rfl, Nat.le_of_ble_eq_true rfl⟩ zw_617 zw_618 zw_619 (by decide) rfl rfl (Nat.le_of_ble_eq_true rfl) ⟨by (try simp only [rmk, room_1]); omega, by (try simp only [rmk, room_1]); omega⟩ rfl rfl (c_H_flank E _ _ _) (fun v211 μ210 => ?_)
                                                    refine J_aload_n zd_L_law_979 rfl ?_
                                                    refine J_aload_n zd_L_law_980 rfl ?_
                                                    refine J_iload_n zd_L_law_981 rfl ?_
                                                    refine J_iconst (v := 1) zd_L_law_982 (by decide) ?_
                                                    refine J_iadd zd_L_law_983 ?_
                                                    refine J_sI zd_L_law_984 (fun v212 => ?_)
                                                    refine J_callVi (ci := 10) (as := [.inl _]) zd_L_law_985 zm_M_flank ⟨Nat.le_of_ble_eq_true rfl, Nat.le_of_ble_eq_true rfl⟩ zw_1002 zw_1003 zw_1004 (by decide) rfl rfl (Nat.le_of_ble_eq_true rfl) ⟨by (try simp only [rmk, room_1]); omega, by (try simp only [rmk, room_1]); omega⟩ rfl rfl (c_M_flank E _ _ _) (fun v214 μ213 => ?_)
                                                    refine J_icmp_eq (tgt := 1257) zd_L_law_988 rfl ?_ ?_
                                                    · refine J_iinc (v := _ + 5) (lv' := [some _, some _, some _, some _]) zd_L_law_1257 (Nat.le_of_ble_eq_true rfl) rfl (by rfl) rfl ?_
                                                      refine J_goto (tgt := 18) zd_L_law_1260 rfl ?_
                                                      exact j_L_law_18 E _ _ _ _ _ _ _ (by (try simp only [rmk, room_1]); omega) (by (try simp only [rmk, room_1]); omega)
                                                    · refine J_iconst (v := 0) zd_L_law_991 (by decide) ?_
                                                      exact J_lawret zd_L_law_992 rfl (by (try simp only [rmk, room_1]); omega) (by (try simp only [rmk, room_1]); omega)
                                                  · skip
                                                    refine J_swc (v := 23) (fun q23 => ?_) (fun q23 => ?_)
                                                    · refine J_swIn (v := 23) zd_L_law_32 q23 (by decide) (by decide) (off := 961) (tgt := 993) (by decide) rfl ?_
                                                      refine J_aload_n zd_L_law_993 rfl ?_
                                                      refine J_aload_n zd_L_law_994 rfl ?_
                                                      refine J_iload_n zd_L_law_995 rfl ?_
                                                      refine J_iconst (v := 1) zd_L_law_996 (by decide) ?_
                                                      refine J_iadd zd_L_law_997 ?_
                                                      refine J_sI zd_L_law_998 (fun v215 => ?_)
                                                      refine J_aload_n zd_L_law_999 rfl ?_
                                                      refine J_iload_n zd_L_law_1000 rfl ?_
                                                      refine J_iconst (v := 2) zd_L_law_1001 (by decide) ?_
                                                      refine J_iadd zd_L_law_1002 ?_
                                                      refine J_sI zd_L_law_1003 (fun v216 => ?_)
                                                      refine J_callVi (ci := 9) (as := [.inl _, .inl _]) zd_L_law_1004 zm_H_box ⟨Nat.le_of_ble_eq_true rfl, Nat.le_of_ble_eq_true rfl⟩ zw_621 zw_622 zw_623 (by decide) rfl rfl (Nat.le_of_ble_eq_true rfl) ⟨by (try simp only [rmk, room_1]); omega, by (try simp only [rmk, room_1]); omega⟩ rfl rfl (c_H_box E _ _ _ _) (fun v218 μ217 => ?_)
                                                      refine J_aload_n zd_L_law_1007 rfl ?_
                                                      refine J_aload_n zd_L_law_1008 rfl ?_
                                                      refine J_iload_n zd_L_law_1009 rfl ?_
                                                      refine J_iconst (v := 1) zd_L_law_1010 (by decide) ?_
                                                      refine J_iadd zd_L_law_1011 ?_
                                                      refine J_sI zd_L_law_1012 (fun v219 => ?_)
                                                      refine J_aload_n zd_L_law_1013 rfl ?_
                                                      refine J_iload_n zd_L_law_1014 rfl ?_
                                                      refine J_iconst (v := 2) zd_L_law_1015 (by decide) ?_
                                                      refine J_iadd zd_L_law_1016 ?_
                                                      refine J_sI zd_L_law_1017 (fun v220 => ?_)
                                                      refine J_callVi (ci := 10) (as := [.inl _, .inl _]) zd_L_law_1018 zm_M_box ⟨Nat.le_of_ble_eq_true rfl, Nat.le_of_ble_eq_true rfl⟩ zw_1006 zw_1007 zw_1008 (by decide) rfl rfl (Nat.le_of_ble_eq_true rfl) ⟨by (try simp only [rmk, room_1]); omega, by (try simp only [rmk, room_1]); omega⟩ rfl rfl (c_M_box E _ _ _ _) (fun v222 μ221 => ?_)
                                                      refine J_icmp_eq (tgt := 1257) zd_L_law_1021 rfl ?_ ?_
                                                      · refine J_iinc (v := _ + 5) (lv' := [some _, some _, some _, some _]) zd_L_law_1257 (Nat.le_of_ble_eq_true rfl) rfl (by rfl) rfl ?_
                                                        refine J_goto (tgt := 18) zd_L_law_1260 rfl ?_
                                                        exact j_L_law_18 E _ _ _ _ _ _ _ (by (try simp only [rmk, room_1]); omega) (by (try simp only [rmk, room_1]); omega)
                                                      · refine J_iconst (v := 0) zd_L_law_1024 (by decide) ?_
                                                        exact J_lawret zd_L_law_1025 rfl (by (try simp only [rmk, room_1]); omega) (by (try simp only [rmk, room_1]); omega)
                                                    · skip
                                                      refine J_swc (v := 24) (fun q24 => ?_) (fun q24 => ?_)
                                                      · refine J_swIn (v := 24) zd_L_law_32 q24 (by decide) (by decide) (off := 994) (tgt := 1026) (by decide) rfl ?_
                                                        refine J_aload_n zd_L_law_1026 rfl ?_
                                                        refine J_aload_n zd_L_law_1027 rfl ?_
                                                        refine J_iload_n zd_L_law_1028 rfl ?_
                                                        refine J_iconst (v := 1) zd_L_law_1029 (by decide) ?_
                                                        refine J_iadd zd_L_law_1030 ?_
                                                        refine J_sI zd_L_law_1031 (fun v223 => ?_)
                                                        refine J_aload_n zd_L_law_1032 rfl ?_
                                                        refine J_iload_n zd_L_law_1033 rfl ?_
                                                        refine J_iconst (v := 2) zd_L_law_1034 (by decide) ?_
                                                        refine J_iadd zd_L_law_1035 ?_
                                                        refine J_sI zd_L_law_1036 (fun v224 => ?_)
                                                        refine J_callVi (ci := 9) (as := [.inl _, .inl _]) zd_L_law_1037 zm_H_look ⟨Nat.le_of_ble_eq_true rfl, Nat.le_of_ble_eq_true rfl⟩ zw_628 zw_629 zw_630 (by decide) rfl rfl (Nat.le_of_ble_eq_true rfl) ⟨by (try simp only [rmk, room_1]); omega, by (try simp only [rmk, room_1]); omega⟩ rfl rfl (c_H_look E _ _ _ _) (fun v226 μ225 => ?_)
                                                        refine J_aload_n zd_L_law_1040 rfl ?_
                                                        refine J_aload_n zd_L_law_1041 rfl ?_
                                                        refine J_iload_n zd_L_law_1042 rfl ?_
                                                        refine J_iconst (v := 1) zd_L_law_1043 (by decide) ?_
                                                        refine J_iadd zd_L_law_1044 ?_
                                                        refine J_sI zd_L_law_1045 (fun v227 => ?_)
                                                        refine J_aload_n zd_L_law_1046 rfl ?_
                                                        refine J_iload_n zd_L_law_1047 rfl ?_
                                                        refine J_iconst (v := 2) zd_L_law_1048 (by decide) ?_
                                                        refine J_iadd zd_L_law_1049 ?_
                                                        refine J_sI zd_L_law_1050 (fun v228 => ?_)
                                                        refine J_callVi (ci := 10) (as := [.inl _, .inl _]) zd_L_law_1051 zm_M_look ⟨Nat.le_of_ble_eq_true rfl, Nat.le_of_ble_eq_true rfl⟩ zw_1013 zw_1014 zw_1015 (by decide) rfl rfl (Nat.le_of_ble_eq_true rfl) ⟨by (try simp only [rmk, room_1]); omega, by (try simp only [rmk, room_1]); omega⟩ rfl rfl (c_M_look E _ _ _ _) (fun v230 μ229 => ?_)
                                                        refine J_icmp_eq (tgt := 1257) zd_L_law_1054 rfl ?_ ?_
                                                        · refine J_iinc (v := _ + 5) (lv' := [some _, some _, some _, some _]) zd_L_law_1257 (Nat.le_of_ble_eq_true rfl) rfl (by rfl) rfl ?_
                                                          refine J_goto (tgt := 18) zd_L_law_1260 rfl ?_
                                                          exact j_L_law_18 E _ _ _ _ _ _ _ (by (try simp only [rmk, room_1]); omega) (by (try simp only [rmk, room_1]); omega)
                                                        · refine J_iconst (v := 0) zd_L_law_1057 (by decide) ?_
                                                          exact J_lawret zd_L_law_1058 rfl (by (try simp only [rmk, room_1]); omega) (by (try simp only [rmk, room_1]); omega)
                                                      · skip
                                                        refine J_swc (v := 25) (fun q25 => ?_) (fun q25 => ?_)
                                                        · refine J_swIn (v := 25) zd_L_law_32 q25 (by decide) (by decide) (off := 1027) (tgt := 1059) (by decide) rfl ?_
                                                          refine J_aload_n zd_L_law_1059 rfl ?_
                                                          refine J_aload_n zd_L_law_1060 rfl ?_
                                                          refine J_iload_n zd_L_law_1061 rfl ?_
                                                          refine J_iconst (v := 1) zd_L_law_1062 (by decide) ?_
                                                          refine J_iadd zd_L_law_1063 ?_
                                                          refine J_sI zd_L_law_1064 (fun v231 => ?_)
                                                          refine J_aload_n zd_L_law_1065 rfl ?_
                                                          refine J_iload_n zd_L_law_1066 rfl ?_
                                                          refine J_iconst (v := 2) zd_L_law_1067 (by decide) ?_
                                                          refine J_iadd zd_L_law_1068 ?_
                                                          refine J_sI zd_L_law_1069 (fun v232 => ?_)
                                                          refine J_callVi (ci := 9) (as := [.inl _, .inl _]) zd_L_law_1070 zm_H_looks ⟨Nat.le_of_ble_eq_true rfl, Nat.le_of_ble_eq_true rfl⟩ zw_635 zw_636 zw_637 (by decide) rfl rfl (Nat.le_of_ble_eq_true rfl) ⟨by (try simp only [rmk, room_1]); omega, by (try simp only [rmk, room_1]); omega⟩ rfl rfl (c_H_looks E _ _ _ _) (fun v234 μ233 => ?_)
                                                          refine J_aload_n zd_L_law_1073 rfl ?_
                                                          refine J_aload_n zd_L_law_1074 rfl ?_
                                                          refine J_iload_n zd_L_law_1075 rfl ?_
                                                          refine J_iconst (v := 1) zd_L_law_1076 (by decide) ?_
                                                          refine J_iadd zd_L_law_1077 ?_
                                                          refine J_sI zd_L_law_1078 (fun v235 => ?_)
                                                          refine J_aload_n zd_L_law_1079 rfl ?_
                                                          refine J_iload_n zd_L_law_1080 rfl ?_
                                                          refine J_iconst (v := 2) zd_L_law_1081 (by decide) ?_
                                                          refine J_iadd zd_L_law_1082 ?_
                                                          refine J_sI zd_L_law_1083 (fun v236 => ?_)
                                                          refine J_callVi (ci := 10) (as := [.inl _, .inl _]) zd_L_law_1084 zm_M_looks ⟨Nat.le_of_ble_eq_true rfl, Nat.le_of_ble_eq_true rfl⟩ zw_1017 zw_1018 zw_1019 (by decide) rfl rfl (Nat.le_of_ble_eq_true rfl) ⟨by (try simp only [rmk, room_1]); omega, by (try simp only [rmk, room_1]); omega⟩ rfl rfl (c_M_looks E _ _ _ _) (fun v238 μ237 => ?_)
                                                          refine J_icmp_eq (tgt := 1257) zd_L_law_1087 rfl ?_ ?_
                                                          · refine J_iinc (v := _ + 5) (lv' := [some _, some _, some _, some _]) zd_L_law_1257 (Nat.le_of_ble_eq_true rfl) rfl (by rfl) rfl ?_
                                                            refine J_goto (tgt := 18) zd_L_law_1260 rfl ?_
                                                            exact j_L_law_18 E _ _ _ _ _ _ _ (by (try simp only [rmk, room_1]); omega) (by (try simp only [rmk, room_1]); omega)
                                                          · refine J_iconst (v := 0) zd_L_law_1090 (by decide) ?_
                                                            exact J_lawret zd_L_law_1091 rfl (by (try simp only [rmk, room_1]); omega) (by (try simp only [rmk, room_1]); omega)
                                                        · skip
                                                          refine J_swc (v := 26) (fun q26 => ?_) (fun q26 => ?_)
                                                          · refine J_swIn (v := 26) zd_L_law_32 q26 (by decide) (by decide) (off := 1060) (tgt := 1092) (by decide) rfl ?_
                                                            refine J_aload_n zd_L_law_1092 rfl ?_
                                                            refine J_aload_n zd_L_law_1093 rfl ?_
                                                            refine J_iload_n zd_L_law_1094 rfl ?_
                                                            refine J_iconst (v := 1) zd_L_law_1095 (by decide) ?_
                                                            refine J_iadd zd_L_law_1096 ?_
                                                            refine J_sI zd_L_law_1097 (fun v239 => ?_)
                                                            refine J_aload_n zd_L_law_1098 rfl ?_
                                                            refine J_iload_n zd_L_law_1099 rfl ?_
                                                            refine J_iconst (v := 2) zd_L_law_1100 (by decide) ?_
                                                            refine J_iadd zd_L_law_1101 ?_
                                                            refine J_sI zd_L_law_1102 (fun v240 => ?_)
                                                            refine J_aload_n zd_L_law_1103 rfl ?_
                                                            refine J_iload_n zd_L_law_1104 rfl ?_
                                                            refine J_iconst (v := 3) zd_L_law_1105 (by decide) ?_
                                                            refine J_iadd zd_L_law_1106 ?_
                                                            refine J_sI zd_L_law_1107 (fun v241 => ?_)
                                                            refine J_callVi (ci := 9) (as := [.inl _, .inl _, .inl _]) zd_L_law_1108 zm_H_lookAt ⟨Nat.le_of_ble_eq_true rfl, Nat.le_of_ble_eq_true rfl⟩ zw_655 zw_656 zw_657 (by decide) rfl rfl (Nat.le_of_ble_eq_true rfl) ⟨by (try simp only [rmk, room_1]); omega, by (try simp only [rmk, room_1]); omega⟩ rfl rfl (c_H_lookAt E _ _ _ _ _) (fun v243 μ242 => ?_)
                                                            refine J_aload_n zd_L_law_1111 rfl ?_
                                                            refine J_aload_n zd_L_law_1112 rfl ?_
                                                            refine J_iload_n zd_L_law_1113 rfl ?_
                                                            refine J_iconst (v := 1) zd_L_law_1114 (by decide) ?_
                                                            refine J_iadd zd_L_law_1115 ?_
                                                            refine J_sI zd_L_law_1116 (fun v244 => ?_)
                                                            refine J_aload_n zd_L_law_1117 rfl ?_
                                                            refine J_iload_n zd_L_law_1118 rfl ?_
                                                            refine J_iconst (v := 2) zd_L_law_1119 (by decide) ?_
                                                            refine J_iadd zd_L_law_1120 ?_
                                                            refine J_sI zd_L_law_1121 (fun v245 => ?_)
                                                            refine J_aload_n zd_L_law_1122 rfl ?_
                                                            refine J_iload_n zd_L_law_1123 rfl ?_
                                                            refine J_iconst (v := 3) zd_L_law_1124 (by decide) ?_
                                                            refine J_iadd zd_L_law_1125 ?_
                                                            refine J_sI zd_L_law_1126 (fun v246 => ?_)
                                                            refine J_callVi (ci := 10) (as := [.inl _, .inl _, .inl _]) zd_L_law_1127 zm_M_lookAt ⟨Nat.le_of_ble_eq_true rfl, Nat.le_of_ble_eq_true rfl⟩ zw_1025 zw_1026 zw_1027 (by decide) rfl rfl (Nat.le_of_ble_eq_true rfl) ⟨by (try simp only [rmk, room_1]); omega, by (try simp only [rmk, room_1]); omega⟩ rfl rfl (c_M_lookAt E _ _ _ _ _) (fun v248 μ247 => ?_)
                                                            refine J_icmp_eq (tgt := 1257) zd_L_law_1130 rfl ?_ ?_
                                                            · refine J_iinc (v := _ + 5) (lv' := [some _, some _, some _, some _]) zd_L_law_1257 (Nat.le_of_ble_eq_true rfl) rfl (by rfl) rfl ?_
                                                              refine J_goto (tgt := 18) zd_L_law_1260 rfl ?_
                                                              exact j_L_law_18 E _ _ _ _ _ _ _ (by (try simp only [rmk, room_1]); omega) (by (try simp only [rmk, room_1]); omega)
                                                            · refine J_iconst (v := 0) zd_L_law_1133 (by decide) ?_
                                                              exact J_lawret zd_L_law_1134 rfl (by (try simp only [rmk, room_1]); omega) (by (try simp only [rmk, room_1]); omega)
                                                          · skip
                                                            refine J_swc (v := 27) (fun q27 => ?_) (fun q27 => ?_)
                                                            · refine J_swIn (v := 27) zd_L_law_32 q27 (by decide) (by decide) (off := 1103) (tgt := 1135) (by decide) rfl ?_
                                                              refine J_aload_n zd_L_law_1135 rfl ?_
                                                              refine J_aload_n zd_L_law_1136 rfl ?_
                                                              refine J_iload_n zd_L_law_1137 rfl ?_
                                                              refine J_iconst (v := 1) zd_L_law_1138 (by decide) ?_
                                                              refine J_iadd zd_L_law_1139 ?_
                                                              refine J_sI zd_L_law_1140 (fun v249 => ?_)
                                                              refine J_aload_n zd_L_law_1141 rfl ?_
                                                              refine J_iload_n zd_L_law_1142 rfl ?_
                                                              refine J_iconst (v := 2) zd_L_law_1143 (by decide) ?_
                                                              refine J_iadd zd_L_law_1144 ?_
                                                              refine J_sI zd_L_law_1145 (fun v250 => ?_)
                                                              refine J_callVi (ci := 9) (as := [.inl _, .inl _]) zd_L_law_1146 zm_H_rest ⟨Nat.le_of_ble_eq_true rfl, Nat.le_of_ble_eq_true rfl⟩ zw_659 zw_660 zw_661 (by decide) rfl rfl (Nat.le_of_ble_eq_true rfl) ⟨by (try simp only [rmk, room_1]); omega, by (try simp only [rmk, room_1]); omega⟩ rfl rfl (c_H_rest E _ _ _ _) (fun v252 μ251 => ?_)
                                                              refine J_aload_n zd_L_law_1149 rfl ?_
                                                              refine J_aload_n zd_L_law_1150 rfl ?_
                                                              refine J_iload_n zd_L_law_1151 rfl ?_
                                                              refine J_iconst (v := 1) zd_L_law_1152 (by decide) ?_
                                                              refine J_iadd zd_L_law_1153 ?_
                                                              refine J_sI zd_L_law_1154 (fun v253 => ?_)
                                                              refine J_aload_n zd_L_law_1155 rfl ?_
                                                              refine J_iload_n zd_L_law_1156 rfl ?_
                                                              refine J_iconst (v := 2) zd_L_law_1157 (by decide) ?_
                                                              refine J_iadd zd_L_law_1158 ?_
                                                              refine J_sI zd_L_law_1159 (fun v254 => ?_)
                                                              refine J_callVi (ci := 10) (as := [.inl _, .inl _]) zd_L_law_1160 zm_M_rest ⟨Nat.le_of_ble_eq_true rfl, Nat.le_of_ble_eq_true rfl⟩ zw_1029 zw_1030 zw_1031 (by decide) rfl rfl (Nat.le_of_ble_eq_true rfl) ⟨by (try simp only [rmk, room_1]); omega, by (try simp only [rmk, room_1]); omega⟩ rfl rfl (c_M_rest E _ _ _ _) (fun v256 μ255 => ?_)
                                                              refine J_icmp_eq (tgt := 1257) zd_L_law_1163 rfl ?_ ?_
                                                              · refine J_iinc (v := _ + 5) (lv' := [some _, some _, some _, some _]) zd_L_law_1257 (Nat.le_of_ble_eq_true rfl) rfl (by rfl) rfl ?_
                                                                refine J_goto (tgt := 18) zd_L_law_1260 rfl ?_
                                                                exact j_L_law_18 E _ _ _ _ _ _ _ (by (try simp only [rmk, room_1]); omega) (by (try simp only [rmk, room_1]); omega)
                                                              · refine J_iconst (v := 0) zd_L_law_1166 (by decide) ?_
                                                                exact J_lawret zd_L_law_1167 rfl (by (try simp only [rmk, room_1]); omega) (by (try simp only [rmk, room_1]); omega)
                                                            · skip
                                                              refine J_swc (v := 28) (fun q28 => ?_) (fun q28 => ?_)
                                                              · refine J_swIn (v := 28) zd_L_law_32 q28 (by decide) (by decide) (off := 1136) (tgt := 1168) (by decide) rfl ?_
                                                                refine J_aload_n zd_L_law_1168 rfl ?_
                                                                refine J_aload_n zd_L_law_1169 rfl ?_
                                                                refine J_iload_n zd_L_law_1170 rfl ?_
                                                                refine J_iconst (v := 1) zd_L_law_1171 (by decide) ?_
                                                                refine J_iadd zd_L_law_1172 ?_
                                                                refine J_sI zd_L_law_1173 (fun v257 => ?_)
                                                                refine J_aload_n zd_L_law_1174 rfl ?_
                                                                refine J_iload_n zd_L_law_1175 rfl ?_
                                                                refine J_iconst (v := 2) zd_L_law_1176 (by decide) ?_
                                                                refine J_iadd zd_L_law_1177 ?_
                                                                refine J_sI zd_L_law_1178 (fun v258 => ?_)
                                                                refine J_callVi (ci := 9) (as := [.inl _, .inl _]) zd_L_law_1179 zm_H_turn ⟨Nat.le_of_ble_eq_true rfl, Nat.le_of_ble_eq_true rfl⟩ zw_663 zw_664 zw_665 (by decide) rfl rfl (Nat.le_of_ble_eq_true rfl) ⟨by (try simp only [rmk, room_1]); omega, by (try simp only [rmk, room_1]); omega⟩ rfl rfl (c_H_turn E _ _ _ _) (fun v260 μ259 => ?_)
                                                                refine J_aload_n zd_L_law_1182 rfl ?_
                                                                refine J_aload_n zd_L_law_1183 rfl ?_
                                                                refine J_iload_n zd_L_law_1184 rfl ?_
                                                                refine J_iconst (v := 1) zd_L_law_1185 (by decide) ?_
                                                                refine J_iadd zd_L_law_1186 ?_
                                                                refine J_sI zd_L_law_1187 (fun v261 => ?_)
                                                                refine J_aload_n zd_L_law_1188 rfl ?_
                                                                refine J_iload_n zd_L_law_1189 rfl ?_
                                                                refine J_iconst (v := 2) zd_L_law_1190 (by decide) ?_
                                                                refine J_iadd zd_L_law_1191 ?_
                                                                refine J_sI zd_L_law_1192 (fun v262 => ?_)
                                                                refine J_callVi (ci := 10) (as := [.inl _, .inl _]) zd_L_law_1193 zm_M_turn ⟨Nat.le_of_ble_eq_true rfl, Nat.le_of_ble_eq_true rfl⟩ zw_1033 zw_1034 zw_1035 (by decide) rfl rfl (Nat.le_of_ble_eq_true rfl) ⟨by (try simp only [rmk, room_1]); omega, by (try simp only [rmk, room_1]); omega⟩ rfl rfl (c_M_turn E _ _ _ _) (fun v264 μ263 => ?_)
                                                                refine J_icmp_eq (tgt := 1257) zd_L_law_1196 rfl ?_ ?_
                                                                · refine J_iinc (v := _ + 5) (lv' := [some _, some _, some _, some _]) zd_L_law_1257 (Nat.le_of_ble_eq_true rfl) rfl (by rfl) rfl ?_
                                                                  refine J_goto (tgt := 18) zd_L_law_1260 rfl ?_
                                                                  exact j_L_law_18 E _ _ _ _ _ _ _ (by (try simp only [rmk, room_1]); omega) (by (try simp only [rmk, room_1]); omega)
                                                                · refine J_iconst (v := 0) zd_L_law_1199 (by decide) ?_
                                                                  exact J_lawret zd_L_law_1200 rfl (by (try simp only [rmk, room_1]); omega) (by (try simp only [rmk, room_1]); omega)
                                                              · skip
                                                                refine J_swc (v := 29) (fun q29 => ?_) (fun q29 => ?_)
                                                                · refine J_swIn (v := 29) zd_L_law_32 q29 (by decide) (by decide) (off := 1169) (tgt := 1201) (by decide) rfl ?_
                                                                  refine J_aload_n zd_L_law_1201 rfl ?_
                                                                  refine J_aload_n zd_L_law_1202 rfl ?_
                                                                  refine J_iload_n zd_L_law_1203 rfl ?_
                                                                  refine J_iconst (v := 1) zd_L_law_1204 (by decide) ?_
                                                                  refine J_iadd zd_L_law_1205 ?_
                                                                  refine J_sI zd_L_law_1206 (fun v265 => ?_)
                                                                  refine J_aload_n zd_L_law_1207 rfl ?_
                                                                  refine J_iload_n zd_L_law_1208 rfl ?_
                                                                  refine J_iconst (v := 2) zd_L_law_1209 (by decide) ?_
                                                                  refine J_iadd zd_L_law_1210 ?_
                                                                  refine J_sI zd_L_law_1211 (fun v266 => ?_)
                                                                  refine J_callVi (ci := 9) (as := [.inl _, .inl _]) zd_L_law_1212 zm_H_personOf ⟨Nat.le_of_ble_eq_true rfl, Nat.le_of_ble_eq_true rfl⟩ zw_671 zw_672 zw_673 (by decide) rfl rfl (Nat.le_of_ble_eq_true rfl) ⟨by (try simp only [rmk, room_1]); omega, by (try simp only [rmk, room_1]); omega⟩ rfl rfl (c_H_personOf E _ _ _ _) (fun v268 μ267 => ?_)
                                                                  refine J_aload_n zd_L_law_1215 rfl ?_
                                                                  refine J_aload_n zd_L_law_1216 rfl ?_
                                                                  refine J_iload_n zd_L_law_1217 rfl ?_
                                                                  refine J_iconst (v := 1) zd_L_law_1218 (by decide) ?_
                                                                  refine J_iadd zd_L_law_1219 ?_
                                                                  refine J_sI zd_L_law_1220 (fun v269 => ?_)
                                                                  refine J_aload_n zd_L_law_1221 rfl ?_
                                                                  refine J_iload_n zd_L_law_1222 rfl ?_
                                                                  refine J_iconst (v := 2) zd_L_law_1223 (by decide) ?_
                                                                  refine J_iadd zd_L_law_1224 ?_
                                                                  refine J_sI zd_L_law_1225 (fun v270 => ?_)
                                                                  refine J_callVi (ci := 10) (as := [.inl _, .inl _]) zd_L_law_1226 zm_M_personOf ⟨Nat.le_of_ble_eq_true rfl, Nat.le_of_ble_eq_true rfl⟩ zw_1037 zw_1038 zw_1039 (by decide) rfl rfl (Nat.le_of_ble_eq_true rfl) ⟨by (try simp only [rmk, room_1]); omega, by (try simp only [rmk, room_1]); omega⟩ rfl rfl (c_M_personOf E _ _ _ _) (fun v272 μ271 => ?_)
                                                                  refine J_icmp_eq (tgt := 1257) zd_L_law_1229 rfl ?_ ?_
                                                                  · refine J_iinc (v := _ + 5) (lv' := [some _, some _, some _, some _]) zd_L_law_1257 (Nat.le_of_ble_eq_true rfl) rfl (by rfl) rfl ?_
                                                                    refine J_goto (tgt := 18) zd_L_law_1260 rfl ?_
                                                                    exact j_L_law_18 E _ _ _ _ _ _ _ (by (try simp only [rmk, room_1]); omega) (by (try simp only [rmk, room_1]); omega)
                                                                  · refine J_iconst (v := 0) zd_L_law_1232 (by decide) ?_
                                                                    exact J_lawret zd_L_law_1233 rfl (by (try simp only [rmk, room_1]); omega) (by (try simp only [rmk, room_1]); omega)
                                                                · skip
                                                                  refine J_swc (v := 30) (fun q30 => ?_) (fun q30 => ?_)
                                                                  · refine J_swIn (v := 30) zd_L_law_32 q30 (by decide) (by decide) (off := 1202) (tgt := 1234) (by decide) rfl ?_
                                                                    refine J_aload_n zd_L_law_1234 rfl ?_
                                                                    refine J_aload_n zd_L_law_1235 rfl ?_
                                                                    refine J_iload_n zd_L_law_1236 rfl ?_
                                                                    refine J_iconst (v := 1) zd_L_law_1237 (by decide) ?_
                                                                    refine J_iadd zd_L_law_1238 ?_
                                                                    refine J_sI zd_L_law_1239 (fun v273 => ?_)
                                                                    refine J_callVi (ci := 9) (as := [.inl _]) zd_L_law_1240 zm_H_count ⟨Nat.le_of_ble_eq_true rfl, Nat.le_of_ble_eq_true rfl⟩ zw_675 zw_676 zw_677 (by decide) rfl rfl (Nat.le_of_ble_eq_true rfl) ⟨by (try simp only [rmk, room_1]); omega, by (try simp only [rmk, room_1]); omega⟩ rfl rfl (c_H_count E _ _ _) (fun v275 μ274 => ?_)
                                                                    refine J_aload_n zd_L_law_1243 rfl ?_
                                                                    refine J_aload_n zd_L_law_1244 rfl ?_
                                                                    refine J_iload_n zd_L_law_1245 rfl ?_
                                                                    refine J_iconst (v := 1) zd_L_law_1246 (by decide) ?_
                                                                    refine J_iadd zd_L_law_1247 ?_
                                                                    refine J_sI zd_L_law_1248 (fun v276 => ?_)
                                                                    refine J_callVi (ci := 10) (as := [.inl _]) zd_L_law_1249 zm_M_count ⟨Nat.le_of_ble_eq_true rfl, Nat.le_of_ble_eq_true rfl⟩ zw_1041 zw_1042 zw_1043 (by decide) rfl rfl (Nat.le_of_ble_eq_true rfl) ⟨by (try simp only [rmk, room_1]); omega, by (try simp only [rmk, room_1]); omega⟩ rfl rfl (c_M_count E _ _ _) (fun v278 μ277 => ?_)
                                                                    refine J_icmp_eq (tgt := 1257) zd_L_law_1252 rfl ?_ ?_
                                                                    · refine J_iinc (v := _ + 5) (lv' := [some _, some _, some _, some _]) zd_L_law_1257 (Nat.le_of_ble_eq_true rfl) rfl (by rfl) rfl ?_
                                                                      refine J_goto (tgt := 18) zd_L_law_1260 rfl ?_
                                                                      exact j_L_law_18 E _ _ _ _ _ _ _ (by (try simp only [rmk, room_1]); omega) (by (try simp only [rmk, room_1]); omega)
                                                                    · refine J_iconst (v := 0) zd_L_law_1255 (by decide) ?_
                                                                      exact J_lawret zd_L_law_1256 rfl (by (try simp only [rmk, room_1]); omega) (by (try simp only [rmk, room_1]); omega)
                                                                  · skip
                                                                    refine J_swOut (tgt := 1257) zd_L_law_32 (sw_out [0, 1, 2, 3, 4, 5, 6, 7, 8, 9, 10, 11, 12, 13, 14, 15, 16, 17, 18, 19, 20, 21, 22, 23, 24, 25, 26, 27, 28, 29, 30] (List.forall_mem_cons.mpr ⟨q0, List.forall_mem_cons.mpr ⟨q1, List.forall_mem_cons.mpr ⟨q2, List.forall_mem_cons.mpr ⟨q3, List.forall_mem_cons.mpr ⟨q4, List.forall_mem_cons.mpr ⟨q5, List.forall_mem_cons.mpr ⟨q6, List.forall_mem_cons.mpr ⟨q7, List.forall_mem_cons.mpr ⟨q8, List.forall_mem_cons.mpr ⟨q9, List.forall_mem_cons.mpr ⟨q10, List.forall_mem_cons.mpr ⟨q11, List.forall_mem_cons.mpr ⟨q12, List.forall_mem_cons.mpr ⟨q13, List.forall_mem_cons.mpr ⟨q14, List.forall_mem_cons.mpr ⟨q15, List.forall_mem_cons.mpr ⟨q16, List.forall_mem_cons.mpr ⟨q17, List.forall_mem_cons.mpr ⟨q18, List.forall_mem_cons.mpr ⟨q19, List.forall_mem_cons.mpr ⟨q20, List.forall_mem_cons.mpr ⟨q21, List.forall_mem_cons.mpr ⟨q22, List.forall_mem_cons.mpr ⟨q23, List.forall_mem_cons.mpr ⟨q24, List.forall_mem_cons.mpr ⟨q25, List.forall_mem_cons.mpr ⟨q26, List.forall_mem_cons.mpr ⟨q27, List.forall_mem_cons.mpr ⟨q28, List.forall_mem_cons.mpr ⟨q29, List.forall_mem_cons.mpr ⟨q30, fun _ h => absurd h List.not_mem_nil⟩⟩⟩⟩⟩⟩⟩⟩⟩⟩⟩⟩⟩⟩⟩⟩⟩⟩⟩⟩⟩⟩⟩⟩⟩⟩⟩⟩⟩⟩⟩) (by decide +kernel)) rfl ?_
                                                                    refine J_iinc (v := _ + 5) (lv' := [some _, some _, some _, some _]) zd_L_law_1257 (Nat.le_of_ble_eq_true rfl) rfl (by rfl) rfl ?_
                                                                    refine J_goto (tgt := 18) zd_L_law_1260 rfl ?_
                                                                    exact j_L_law_18 E _ _ _ _ _ _ _ (by (try simp only [rmk, room_1]); omega) (by (try simp only [rmk, room_1]); omega)
def f_L_law (xs : Nat → Int32) (L : Nat) (μ : Mem) : Option (LV × Mem) := nO μ (12, 0) (fun h279 μ280 => cN h279 (bV (f_H_init h279 μ280) (fun μ281 => nO μ281 (13, 0) (fun h282 μ283 => cN h282 (bV (f_M_init h282 μ283) (fun μ284 => (k_L_law_18 xs L h279 h282 600 0 μ284)))))))
set_option maxRecDepth 40000 in
theorem j_L_law (E : EV) (μ : Mem) : J E I_L_law room_1 (QL E) 0 0 μ 0 [some (.inr 2), none, none, none] [] (f_L_law E.2.2.2.2.2.2.2 E.2.2.2.2.2.2.1 μ) := by
  unfold f_L_law
  refine J_new (ci := 9) zd_L_law_0 ⟨rfl, zi_H, zt_H, zv_H, zw_21, zw_22, zw_1⟩ (Nat.le_of_ble_eq_true rfl) (Nat.le_of_ble_eq_true rfl) (fun h279 μ280 => ?_)
  refine J_dup zd_L_law_3 ?_
  refine J_callI (as := []) zd_L_law_4 zm_H_init ⟨Nat.le_of_ble_eq_true rfl, Nat.le_of_ble_eq_true rfl⟩ zw_23 zw_24 rfl rfl (Nat.le_of_ble_eq_true rfl) ⟨by (try simp only [rmk, room_1]); omega, by (try simp only [rmk, room_1]); omega⟩ rfl rfl (c_H_init E _ _) (fun μ281 => ?_)
  refine J_astore_n (lv' := [some _, some _, none, none]) zd_L_law_7 (Nat.le_of_ble_eq_true rfl) rfl ?_
  refine J_new (ci := 10) zd_L_law_8 ⟨rfl, zi_M, zt_M, zv_M, zw_687, zw_688, zw_11⟩ (Nat.le_of_ble_eq_true rfl) (Nat.le_of_ble_eq_true rfl) (fun h282 μ283 => ?_)
  refine J_dup zd_L_law_11 ?_
  refine J_callI (as := []) zd_L_law_12 zm_M_init ⟨Nat.le_of_ble_eq_true rfl, Nat.le_of_ble_eq_true rfl⟩ zw_689 zw_690 rfl rfl (Nat.le_of_ble_eq_true rfl) ⟨by (try simp only [rmk, room_1]); omega, by (try simp only [rmk, room_1]); omega⟩ rfl rfl (c_M_init E _ _) (fun μ284 => ?_)
  refine J_astore_n (lv' := [some _, some _, some _, none]) zd_L_law_15 (Nat.le_of_ble_eq_true rfl) rfl ?_
  refine J_iconst (v := 0) zd_L_law_16 (by decide) ?_
  refine J_istore_n (lv' := [some _, some _, some _, some _]) zd_L_law_17 (Nat.le_of_ble_eq_true rfl) rfl ?_
  exact j_L_law_18 E _ _ _ _ _ _ _ (by (try simp only [rmk, room_1]); omega) (by (try simp only [rmk, room_1]); omega)
