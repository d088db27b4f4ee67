section
variable {so st on tw th fo nx wh wt li mr : nA} {xn hi hi2 klo km khi xg xl : Int}
theorem SGC_3 {r z : Int32} (h : SGC so on tw th nx wt mr xn hi klo km xg z.toInt) (hx : 0 ≤ z.toInt) (hc : CV so on tw th nx wt mr hi hi2 km khi (fun c => c = r.toInt)) (hr : hi ≤ r.toInt) (hr2 : r.toInt < hi2) (h0 : 1 ≤ xn) (hn : rd nx r.toInt = -1) (ho : 18 < rd so r.toInt) (hk : klo ≤ km) (hk2 : km ≤ khi) : SGC so on tw th (upd nx z.toNatClampNeg r) wt mr xn hi2 klo khi xg r.toInt := by
  obtain ⟨h1, hz⟩ := h
  rcases hz with hz | ⟨z1, z2, z3, z4, z5⟩
  · omega
  · have ax : ax9 xn hi so so on tw th so nx so so so on tw th so (upd nx z.toNatClampNeg r) so := fun c a b d => ⟨rfl, rfl, rfl, rfl, rfl, rfl, rfl, by
      by_cases q : c = z.toInt
      · rw [q]; exact Or.inr ⟨z4, by omega⟩
      · exact Or.inl (rd_n hx d q)⟩
    have ax2 : ax9 hi hi2 so so on tw th so nx so so so on tw th so (upd nx z.toNatClampNeg r) so := fun c a b d => ⟨rfl, rfl, rfl, rfl, rfl, rfl, rfl, Or.inl (rd_n hx d (by omega))⟩
    have GX : ∀ c : Int, xn - 1 < c → c < hi → rd (upd nx z.toNatClampNeg r) c = rd nx c ∨ rd nx c < 0 := fun c a b => (ax c (by omega) b (by omega)).2.2.2.2.2.2.2.imp id (fun z => z.2)
    have LQ : ∀ c, sgQ nx xn hi xg c → sgQ (upd nx z.toNatClampNeg r) xn hi2 xg c := fun c ⟨n, q⟩ => ⟨n, lR_u (by omega) (by omega) GX n _ _ q⟩
    have SQ : sgQ (upd nx z.toNatClampNeg r) xn hi2 xg r.toInt := by
      obtain ⟨n, q⟩ := z5
      exact ⟨n + 1, lR_s (by omega) hx (by omega) (by omega) hr2 (by omega) n _ q⟩
    have c1 := CV_u (wt' := wt) (mr' := mr) h1 (by omega) ax (fun _ _ _ => ⟨rfl, rfl⟩)
    have c2 := CV_u (wt' := wt) (mr' := mr) hc (by omega) ax2 (fun _ _ _ => ⟨rfl, rfl⟩)
    refine ⟨CV_2 c1 c2 (by omega) (by omega) (by omega) hk hk2 (fun c q => LQ c q) (fun c q => by rw [q]; exact SQ), Or.inr ⟨by omega, hr2, ?_, ho, SQ⟩⟩
    rw [rd_n hx (by omega) (by omega)]
    exact hn
theorem SGC_4 {r : Int} (h : SGC so on tw th nx wt mr xn hi klo km xg xl) (hx : xl < 0) (hc : CV so on tw th nx wt mr hi hi2 km khi (fun c => c = r)) (hr : hi ≤ r) (hr2 : r < hi2) (h0 : 1 ≤ xn) (hn : rd nx r = -1) (ho : 18 < rd so r) (hk : klo ≤ km) : SGC so on tw th nx wt mr xn hi2 klo khi r r := by
  have e : hi = xn := by
    rcases h.2 with z | z
    · exact z.2
    · omega
  subst e
  have Q : sgQ nx hi hi2 r r := ⟨0, rfl, by omega, hr2⟩
  refine ⟨fun x x0 x1 x2 => ?_, Or.inr ⟨hr, hr2, hn, ho, Q⟩⟩
  rcases hc x x0 x1 x2 with ⟨c, c0, c1, c2⟩ | ⟨k, k0, k1, k2⟩
  · exact Or.inl ⟨c, c0, by rw [c1]; exact Q, c2⟩
  · exact Or.inr ⟨k, by omega, k1, k2⟩
end
