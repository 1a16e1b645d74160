theorem kI_X6_init : CI MX6_init 0 := ⟨rfl, rfl, win_X6_init, wii_X6, wco_X6_init, ⟨by decide +kernel, by decide +kernel, by decide +kernel⟩, by decide⟩
theorem kI_X4_init : CI MX4_init 0 := ⟨rfl, rfl, win_X4_init, wii_X4, wco_X4_init, ⟨by decide +kernel, by decide +kernel, by decide +kernel⟩, by decide⟩
theorem kI_X0_init : CI MX0_init 1 := ⟨rfl, rfl, win_X0_init, wii_X0, wco_X0_init, ⟨by decide +kernel, by decide +kernel, by decide +kernel⟩, by decide⟩
theorem kI_X3_init : CI MX3_init 1 := ⟨rfl, rfl, win_X3_init, wii_X3, wco_X3_init, ⟨by decide +kernel, by decide +kernel, by decide +kernel⟩, by decide⟩
theorem kI_X1_init : CI MX1_init 0 := ⟨rfl, rfl, win_X1_init, wii_X1, wco_X1_init, ⟨by decide +kernel, by decide +kernel, by decide +kernel⟩, by decide⟩
theorem kI_X5_init : CI MX5_init 0 := ⟨rfl, rfl, win_X5_init, wii_X5, wco_X5_init, ⟨by decide +kernel, by decide +kernel, by decide +kernel⟩, by decide⟩
theorem kV_X3_fill : CV MX3_fill 1 := ⟨win_X3_fill, wse_X3_fill, wii_X3, wco_X3_fill, ⟨by decide +kernel, by decide +kernel, by decide +kernel⟩, by decide⟩
theorem kV_X6_addLayer : CV MX6_addLayer 1 := ⟨win_X6_addLayer, wse_X6_addLayer, wii_X6, wco_X6_addLayer, ⟨by decide +kernel, by decide +kernel, by decide +kernel⟩, by decide⟩
theorem kI_X2_init : CI MX2_init 2 := ⟨rfl, rfl, win_X2_init, wii_X2, wco_X2_init, ⟨by decide +kernel, by decide +kernel, by decide +kernel⟩, by decide⟩
theorem kV_X2_regrow : CV MX2_regrow 1 := ⟨win_X2_regrow, wse_X2_regrow, wii_X2, wco_X2_regrow, ⟨by decide +kernel, by decide +kernel, by decide +kernel⟩, by decide⟩
theorem kV_X5_growQuarters : CV MX5_growQuarters 3 := ⟨win_X5_growQuarters, wse_X5_growQuarters, wii_X5, wco_X5_growQuarters, ⟨by decide +kernel, by decide +kernel, by decide +kernel⟩, by decide⟩
theorem kV_X5_fell : CV MX5_fell 0 := ⟨win_X5_fell, wse_X5_fell, wii_X5, wco_X5_fell, ⟨by decide +kernel, by decide +kernel, by decide +kernel⟩, by decide⟩
theorem kV_X5_addNode : CV MX5_addNode 1 := ⟨win_X5_addNode, wse_X5_addNode, wii_X5, wco_X5_addNode, ⟨by decide +kernel, by decide +kernel, by decide +kernel⟩, by decide⟩
theorem kV_X3_put : CV MX3_put 2 := ⟨win_X3_put, wse_X3_put, wii_X3, wco_X3_put, ⟨by decide +kernel, by decide +kernel, by decide +kernel⟩, by decide⟩
theorem kV_X0_put : CV MX0_put 5 := ⟨win_X0_put, wse_X0_put, wii_X0, wco_X0_put, ⟨by decide +kernel, by decide +kernel, by decide +kernel⟩, by decide⟩
theorem kV_X4_isIn : CV MX4_isIn 2 := ⟨win_X4_isIn, wse_X4_isIn, wii_X4, wco_X4_isIn, ⟨by decide +kernel, by decide +kernel, by decide +kernel⟩, by decide⟩
theorem kV_X3_at : CV MX3_at 1 := ⟨win_X3_at, wse_X3_at, wii_X3, wco_X3_at, ⟨by decide +kernel, by decide +kernel, by decide +kernel⟩, by decide⟩
theorem kV_X5_settle : CV MX5_settle 2 := ⟨win_X5_settle, wse_X5_settle, wii_X5, wco_X5_settle, ⟨by decide +kernel, by decide +kernel, by decide +kernel⟩, by decide⟩
theorem kV_X3_addTo : CV MX3_addTo 2 := ⟨win_X3_addTo, wse_X3_addTo, wii_X3, wco_X3_addTo, ⟨by decide +kernel, by decide +kernel, by decide +kernel⟩, by decide⟩
theorem kV_X5_halfSide : CV MX5_halfSide 1 := ⟨win_X5_halfSide, wse_X5_halfSide, wii_X5, wco_X5_halfSide, ⟨by decide +kernel, by decide +kernel, by decide +kernel⟩, by decide⟩
theorem kV_X5_split : CV MX5_split 2 := ⟨win_X5_split, wse_X5_split, wii_X5, wco_X5_split, ⟨by decide +kernel, by decide +kernel, by decide +kernel⟩, by decide⟩
theorem kV_X5_quarterOf : CV MX5_quarterOf 3 := ⟨win_X5_quarterOf, wse_X5_quarterOf, wii_X5, wco_X5_quarterOf, ⟨by decide +kernel, by decide +kernel, by decide +kernel⟩, by decide⟩
theorem kV_X6_setSize : CV MX6_setSize 2 := ⟨win_X6_setSize, wse_X6_setSize, wii_X6, wco_X6_setSize, ⟨by decide +kernel, by decide +kernel, by decide +kernel⟩, by decide⟩
theorem kV_X6_layerAt : CV MX6_layerAt 1 := ⟨win_X6_layerAt, wse_X6_layerAt, wii_X6, wco_X6_layerAt, ⟨by decide +kernel, by decide +kernel, by decide +kernel⟩, by decide⟩
theorem kT_X6_checkSize : CT MX6_checkSize 2 := ⟨wst_X6_checkSize, wii_X6, wco_X6_checkSize, ⟨by decide +kernel, by decide +kernel, by decide +kernel⟩, by decide⟩
theorem kV_X6_addPoint : CV MX6_addPoint 4 := ⟨win_X6_addPoint, wse_X6_addPoint, wii_X6, wco_X6_addPoint, ⟨by decide +kernel, by decide +kernel, by decide +kernel⟩, by decide⟩
theorem kT_X6_checkIsOfPoints : CT MX6_checkIsOfPoints 1 := ⟨wst_X6_checkIsOfPoints, wii_X6, wco_X6_checkIsOfPoints, ⟨by decide +kernel, by decide +kernel, by decide +kernel⟩, by decide⟩
theorem kT_X6_checkWithinMap : CT MX6_checkWithinMap 2 := ⟨wst_X6_checkWithinMap, wii_X6, wco_X6_checkWithinMap, ⟨by decide +kernel, by decide +kernel, by decide +kernel⟩, by decide⟩
theorem kV_X6_checkRoomFor : CV MX6_checkRoomFor 1 := ⟨win_X6_checkRoomFor, wse_X6_checkRoomFor, wii_X6, wco_X6_checkRoomFor, ⟨by decide +kernel, by decide +kernel, by decide +kernel⟩, by decide⟩
theorem kV_X4_add : CV MX4_add 2 := ⟨win_X4_add, wse_X4_add, wii_X4, wco_X4_add, ⟨by decide +kernel, by decide +kernel, by decide +kernel⟩, by decide⟩
theorem kV_X6_addBox : CV MX6_addBox 6 := ⟨win_X6_addBox, wse_X6_addBox, wii_X6, wco_X6_addBox, ⟨by decide +kernel, by decide +kernel, by decide +kernel⟩, by decide⟩
theorem kT_X6_checkIsOfBoxes : CT MX6_checkIsOfBoxes 1 := ⟨wst_X6_checkIsOfBoxes, wii_X6, wco_X6_checkIsOfBoxes, ⟨by decide +kernel, by decide +kernel, by decide +kernel⟩, by decide⟩
theorem kV_X6_move : CV MX6_move 3 := ⟨win_X6_move, wse_X6_move, wii_X6, wco_X6_move, ⟨by decide +kernel, by decide +kernel, by decide +kernel⟩, by decide⟩
theorem kV_X6_layerOfThing : CV MX6_layerOfThing 1 := ⟨win_X6_layerOfThing, wse_X6_layerOfThing, wii_X6, wco_X6_layerOfThing, ⟨by decide +kernel, by decide +kernel, by decide +kernel⟩, by decide⟩
theorem kV_X0_farFrom : CV MX0_farFrom 5 := ⟨win_X0_farFrom, wse_X0_farFrom, wii_X0, wco_X0_farFrom, ⟨by decide +kernel, by decide +kernel, by decide +kernel⟩, by decide⟩
theorem kT_X0_gap : CT MX0_gap 4 := ⟨wst_X0_gap, wii_X0, wco_X0_gap, ⟨by decide +kernel, by decide +kernel, by decide +kernel⟩, by decide⟩
theorem kV_X2_letGo : CV MX2_letGo 1 := ⟨win_X2_letGo, wse_X2_letGo, wii_X2, wco_X2_letGo, ⟨by decide +kernel, by decide +kernel, by decide +kernel⟩, by decide⟩
theorem kV_X6_remove : CV MX6_remove 1 := ⟨win_X6_remove, wse_X6_remove, wii_X6, wco_X6_remove, ⟨by decide +kernel, by decide +kernel, by decide +kernel⟩, by decide⟩
theorem kV_X4_countIn : CV MX4_countIn 1 := ⟨win_X4_countIn, wse_X4_countIn, wii_X4, wco_X4_countIn, ⟨by decide +kernel, by decide +kernel, by decide +kernel⟩, by decide⟩
theorem kV_X6_pack : CV MX6_pack 1 := ⟨win_X6_pack, wse_X6_pack, wii_X6, wco_X6_pack, ⟨by decide +kernel, by decide +kernel, by decide +kernel⟩, by decide⟩
theorem kV_X5_growPacked : CV MX5_growPacked 3 := ⟨win_X5_growPacked, wse_X5_growPacked, wii_X5, wco_X5_growPacked, ⟨by decide +kernel, by decide +kernel, by decide +kernel⟩, by decide⟩
theorem kV_X5_orderToPack : CV MX5_orderToPack 3 := ⟨win_X5_orderToPack, wse_X5_orderToPack, wii_X5, wco_X5_orderToPack, ⟨by decide +kernel, by decide +kernel, by decide +kernel⟩, by decide⟩
theorem kV_X0_twiceMiddleX : CV MX0_twiceMiddleX 1 := ⟨win_X0_twiceMiddleX, wse_X0_twiceMiddleX, wii_X0, wco_X0_twiceMiddleX, ⟨by decide +kernel, by decide +kernel, by decide +kernel⟩, by decide⟩
theorem kV_X3_sortPart : CV MX3_sortPart 2 := ⟨win_X3_sortPart, wse_X3_sortPart, wii_X3, wco_X3_sortPart, ⟨by decide +kernel, by decide +kernel, by decide +kernel⟩, by decide⟩
theorem kV_X0_twiceMiddleY : CV MX0_twiceMiddleY 1 := ⟨win_X0_twiceMiddleY, wse_X0_twiceMiddleY, wii_X0, wco_X0_twiceMiddleY, ⟨by decide +kernel, by decide +kernel, by decide +kernel⟩, by decide⟩
theorem kT_X5_sliceLength : CT MX5_sliceLength 2 := ⟨wst_X5_sliceLength, wii_X5, wco_X5_sliceLength, ⟨by decide +kernel, by decide +kernel, by decide +kernel⟩, by decide⟩
theorem kV_X5_cutLeaves : CV MX5_cutLeaves 3 := ⟨win_X5_cutLeaves, wse_X5_cutLeaves, wii_X5, wco_X5_cutLeaves, ⟨by decide +kernel, by decide +kernel, by decide +kernel⟩, by decide⟩
theorem kV_X5_copyBox : CV MX5_copyBox 3 := ⟨win_X5_copyBox, wse_X5_copyBox, wii_X5, wco_X5_copyBox, ⟨by decide +kernel, by decide +kernel, by decide +kernel⟩, by decide⟩
theorem kV_X0_stretchOver : CV MX0_stretchOver 3 := ⟨win_X0_stretchOver, wse_X0_stretchOver, wii_X0, wco_X0_stretchOver, ⟨by decide +kernel, by decide +kernel, by decide +kernel⟩, by decide⟩
theorem kV_X5_cutNodes : CV MX5_cutNodes 4 := ⟨win_X5_cutNodes, wse_X5_cutNodes, wii_X5, wco_X5_cutNodes, ⟨by decide +kernel, by decide +kernel, by decide +kernel⟩, by decide⟩
theorem kV_X6_things : CV MX6_things 0 := ⟨win_X6_things, wse_X6_things, wii_X6, wco_X6_things, ⟨by decide +kernel, by decide +kernel, by decide +kernel⟩, by decide⟩
theorem kV_X6_size : CV MX6_size 1 := ⟨win_X6_size, wse_X6_size, wii_X6, wco_X6_size, ⟨by decide +kernel, by decide +kernel, by decide +kernel⟩, by decide⟩
theorem kV_X6_of : CV MX6_of 2 := ⟨win_X6_of, wse_X6_of, wii_X6, wco_X6_of, ⟨by decide +kernel, by decide +kernel, by decide +kernel⟩, by decide⟩
theorem kV_X2_isLoose : CV MX2_isLoose 1 := ⟨win_X2_isLoose, wse_X2_isLoose, wii_X2, wco_X2_isLoose, ⟨by decide +kernel, by decide +kernel, by decide +kernel⟩, by decide⟩
theorem kV_X6_nodes : CV MX6_nodes 1 := ⟨win_X6_nodes, wse_X6_nodes, wii_X6, wco_X6_nodes, ⟨by decide +kernel, by decide +kernel, by decide +kernel⟩, by decide⟩
theorem kV_X6_leaf : CV MX6_leaf 4 := ⟨win_X6_leaf, wse_X6_leaf, wii_X6, wco_X6_leaf, ⟨by decide +kernel, by decide +kernel, by decide +kernel⟩, by decide⟩
theorem kV_X5_leafAt : CV MX5_leafAt 2 := ⟨win_X5_leafAt, wse_X5_leafAt, wii_X5, wco_X5_leafAt, ⟨by decide +kernel, by decide +kernel, by decide +kernel⟩, by decide⟩
theorem kV_X5_isLeaf : CV MX5_isLeaf 1 := ⟨win_X5_isLeaf, wse_X5_isLeaf, wii_X5, wco_X5_isLeaf, ⟨by decide +kernel, by decide +kernel, by decide +kernel⟩, by decide⟩
theorem kV_X5_belowAt : CV MX5_belowAt 2 := ⟨win_X5_belowAt, wse_X5_belowAt, wii_X5, wco_X5_belowAt, ⟨by decide +kernel, by decide +kernel, by decide +kernel⟩, by decide⟩
theorem kV_X6_level : CV MX6_level 2 := ⟨win_X6_level, wse_X6_level, wii_X6, wco_X6_level, ⟨by decide +kernel, by decide +kernel, by decide +kernel⟩, by decide⟩
theorem kV_X5_countOnLevel : CV MX5_countOnLevel 1 := ⟨win_X5_countOnLevel, wse_X5_countOnLevel, wii_X5, wco_X5_countOnLevel, ⟨by decide +kernel, by decide +kernel, by decide +kernel⟩, by decide⟩
theorem kV_X6_node : CV MX6_node 4 := ⟨win_X6_node, wse_X6_node, wii_X6, wco_X6_node, ⟨by decide +kernel, by decide +kernel, by decide +kernel⟩, by decide⟩
theorem kV_X5_firstOnLevel : CV MX5_firstOnLevel 1 := ⟨win_X5_firstOnLevel, wse_X5_firstOnLevel, wii_X5, wco_X5_firstOnLevel, ⟨by decide +kernel, by decide +kernel, by decide +kernel⟩, by decide⟩
theorem kV_X6_inBox : CV MX6_inBox 5 := ⟨win_X6_inBox, wse_X6_inBox, wii_X6, wco_X6_inBox, ⟨by decide +kernel, by decide +kernel, by decide +kernel⟩, by decide⟩
theorem kV_X4_countMeeting : CV MX4_countMeeting 5 := ⟨win_X4_countMeeting, wse_X4_countMeeting, wii_X4, wco_X4_countMeeting, ⟨by decide +kernel, by decide +kernel, by decide +kernel⟩, by decide⟩
theorem kV_X6_visited : CV MX6_visited 5 := ⟨win_X6_visited, wse_X6_visited, wii_X6, wco_X6_visited, ⟨by decide +kernel, by decide +kernel, by decide +kernel⟩, by decide⟩
theorem kV_X5_countVisited : CV MX5_countVisited 5 := ⟨win_X5_countVisited, wse_X5_countVisited, wii_X5, wco_X5_countVisited, ⟨by decide +kernel, by decide +kernel, by decide +kernel⟩, by decide⟩
theorem kV_X6_nearest : CV MX6_nearest 4 := ⟨win_X6_nearest, wse_X6_nearest, wii_X6, wco_X6_nearest, ⟨by decide +kernel, by decide +kernel, by decide +kernel⟩, by decide⟩
theorem kV_X6_keyOfNearest : CV MX6_keyOfNearest 4 := ⟨win_X6_keyOfNearest, wse_X6_keyOfNearest, wii_X6, wco_X6_keyOfNearest, ⟨by decide +kernel, by decide +kernel, by decide +kernel⟩, by decide⟩
theorem kV_X4_sortByFar : CV MX4_sortByFar 3 := ⟨win_X4_sortByFar, wse_X4_sortByFar, wii_X4, wco_X4_sortByFar, ⟨by decide +kernel, by decide +kernel, by decide +kernel⟩, by decide⟩
theorem kV_X6_far : CV MX6_far 4 := ⟨win_X6_far, wse_X6_far, wii_X6, wco_X6_far, ⟨by decide +kernel, by decide +kernel, by decide +kernel⟩, by decide⟩
theorem kV_X6_visitedFor : CV MX6_visitedFor 4 := ⟨win_X6_visitedFor, wse_X6_visitedFor, wii_X6, wco_X6_visitedFor, ⟨by decide +kernel, by decide +kernel, by decide +kernel⟩, by decide⟩
theorem kV_X6_pairs : CV MX6_pairs 3 := ⟨win_X6_pairs, wse_X6_pairs, wii_X6, wco_X6_pairs, ⟨by decide +kernel, by decide +kernel, by decide +kernel⟩, by decide⟩
theorem kT_X6_checkFar : CT MX6_checkFar 1 := ⟨wst_X6_checkFar, wii_X6, wco_X6_checkFar, ⟨by decide +kernel, by decide +kernel, by decide +kernel⟩, by decide⟩
theorem kV_X4_countPairs : CV MX4_countPairs 3 := ⟨win_X4_countPairs, wse_X4_countPairs, wii_X4, wco_X4_countPairs, ⟨by decide +kernel, by decide +kernel, by decide +kernel⟩, by decide⟩
theorem kV_X4_countNear : CV MX4_countNear 4 := ⟨win_X4_countNear, wse_X4_countNear, wii_X4, wco_X4_countNear, ⟨by decide +kernel, by decide +kernel, by decide +kernel⟩, by decide⟩
theorem kV_X0_farBetween : CV MX0_farBetween 3 := ⟨win_X0_farBetween, wse_X0_farBetween, wii_X0, wco_X0_farBetween, ⟨by decide +kernel, by decide +kernel, by decide +kernel⟩, by decide⟩
theorem kV_X6_visitedPairs : CV MX6_visitedPairs 3 := ⟨win_X6_visitedPairs, wse_X6_visitedPairs, wii_X6, wco_X6_visitedPairs, ⟨by decide +kernel, by decide +kernel, by decide +kernel⟩, by decide⟩
theorem kT_X6_countVisitedPairs : CT MX6_countVisitedPairs 6 := ⟨wst_X6_countVisitedPairs, wii_X6, wco_X6_countVisitedPairs, ⟨by decide +kernel, by decide +kernel, by decide +kernel⟩, by decide⟩
theorem kV_X6_clusters : CV MX6_clusters 2 := ⟨win_X6_clusters, wse_X6_clusters, wii_X6, wco_X6_clusters, ⟨by decide +kernel, by decide +kernel, by decide +kernel⟩, by decide⟩
theorem kV_X4_gatherClusters : CV MX4_gatherClusters 2 := ⟨win_X4_gatherClusters, wse_X4_gatherClusters, wii_X4, wco_X4_gatherClusters, ⟨by decide +kernel, by decide +kernel, by decide +kernel⟩, by decide⟩
theorem kV_X4_joinClusters : CV MX4_joinClusters 2 := ⟨win_X4_joinClusters, wse_X4_joinClusters, wii_X4, wco_X4_joinClusters, ⟨by decide +kernel, by decide +kernel, by decide +kernel⟩, by decide⟩
theorem kV_X4_countClusters : CV MX4_countClusters 1 := ⟨win_X4_countClusters, wse_X4_countClusters, wii_X4, wco_X4_countClusters, ⟨by decide +kernel, by decide +kernel, by decide +kernel⟩, by decide⟩
theorem kV_X6_greatest : CV MX6_greatest 2 := ⟨win_X6_greatest, wse_X6_greatest, wii_X6, wco_X6_greatest, ⟨by decide +kernel, by decide +kernel, by decide +kernel⟩, by decide⟩
theorem kV_X4_greatestCluster : CV MX4_greatestCluster 1 := ⟨win_X4_greatestCluster, wse_X4_greatestCluster, wii_X4, wco_X4_greatestCluster, ⟨by decide +kernel, by decide +kernel, by decide +kernel⟩, by decide⟩
theorem kV_X6_nodesWith : CV MX6_nodesWith 2 := ⟨win_X6_nodesWith, wse_X6_nodesWith, wii_X6, wco_X6_nodesWith, ⟨by decide +kernel, by decide +kernel, by decide +kernel⟩, by decide⟩
theorem kV_X6_digest : CV MX6_digest 0 := ⟨win_X6_digest, wse_X6_digest, wii_X6, wco_X6_digest, ⟨by decide +kernel, by decide +kernel, by decide +kernel⟩, by decide⟩
theorem kV_X6_depth : CV MX6_depth 1 := ⟨win_X6_depth, wse_X6_depth, wii_X6, wco_X6_depth, ⟨by decide +kernel, by decide +kernel, by decide +kernel⟩, by decide⟩
theorem kV_X5_countLevels : CV MX5_countLevels 0 := ⟨win_X5_countLevels, wse_X5_countLevels, wii_X5, wco_X5_countLevels, ⟨by decide +kernel, by decide +kernel, by decide +kernel⟩, by decide⟩
theorem kV_X6_area : CV MX6_area 0 := ⟨win_X6_area, wse_X6_area, wii_X6, wco_X6_area, ⟨by decide +kernel, by decide +kernel, by decide +kernel⟩, by decide⟩
theorem kV_X1_twiceItsArea : CV MX1_twiceItsArea 0 := ⟨win_X1_twiceItsArea, wse_X1_twiceItsArea, wii_X1, wco_X1_twiceItsArea, ⟨by decide +kernel, by decide +kernel, by decide +kernel⟩, by decide⟩
theorem kV_X1_next : CV MX1_next 1 := ⟨win_X1_next, wse_X1_next, wii_X1, wco_X1_next, ⟨by decide +kernel, by decide +kernel, by decide +kernel⟩, by decide⟩
theorem kT_L_below : CT ML_below 2 := ⟨wst_L_below, wii_L, wco_L_below, ⟨by decide +kernel, by decide +kernel, by decide +kernel⟩, by decide⟩
theorem kT_L_cell : CT ML_cell 2 := ⟨wst_L_cell, wii_L, wco_L_cell, ⟨by decide +kernel, by decide +kernel, by decide +kernel⟩, by decide⟩
theorem Sp.mono {K : GK} {M : MD} {d mc ms : Nat} {as : List Value} {h : VH} {P P' : Option Value → VH → Prop} {X : String → VH → Prop} (q : Sp K M d mc ms as h P X) (hp : ∀ v u, P v u → P' v u) : Sp K M d mc ms as h P' X := by
  intro hK p e ha hc hk s m args below hf happ hpre hT
  obtain ⟨n, o, h1, h2, h3, h4⟩ := q hK p e ha hc hk s m args below hf happ hpre hT
  refine ⟨n, o, h1, h2, h3, ?_⟩
  rcases h4 with ⟨⟨⟨v, u, e1, e2, e3⟩, e4⟩, e5⟩ | h4
  · exact Or.inl ⟨⟨⟨v, u, e1, hp v u e2, e3⟩, e4⟩, e5⟩
  · exact Or.inr h4
/-! a row's methods, over any cells -/
def rat (f : Nat → Int32) (n : Nat) (i : Int32) : Int32 := if i < 0 then 0 else if nI n ≤ i then 0 else f i.toNatClampNeg
def rput (f : Nat → Int32) (n : Nat) (i x : Int32) : Nat → Int32 := if i < 0 then f else if nI n ≤ i then f else upd f i.toNatClampNeg x
def rfil (f : Nat → Int32) (n : Nat) (x : Int32) (j : Nat) : Nat → Int32 := fun k => if j ≤ k ∧ k < n then x else f k
/-- the hole goes down, then the key is put -/
def insA (f : Nat → Int32) (start : Nat) (key : Int32) (hole : Nat) : Nat → Int32 := match hole with
  | 0 => upd f 0 key
  | h + 1 => if start < h + 1 ∧ key < f h then insA (upd f (h + 1) (f h)) start key h else upd f (h + 1) key
/-- c keys from the i-th on are put in order among those from start on -/
def srtA (f : Nat → Int32) (start i c : Nat) : Nat → Int32 := match c with
  | 0 => f
  | c + 1 => srtA (insA f start (f i) i) start (i + 1) c
theorem set_same {h : VH} {a : Nat} {e : VE} (he : h.2[a]? = some e) : (h.1, h.2.set a e) = h := by
  refine Prod.ext rfl ?_
  apply List.ext_getElem?
  intro k
  show (h.2.set a e)[k]? = _
  rw [List.getElem?_set]
  by_cases hk : a = k
  · subst hk
    rw [if_pos rfl, if_pos (List.getElem?_eq_some_iff.mp he).1, he]
  · rw [if_neg hk]
theorem set_ne {h : VH} {a r : Nat} {e : VE} {x : Option VE} (hr : h.2[r]? = x) (hra : a ≠ r) : ((h.1, h.2.set a e) : VH).2[r]? = x := by
  show (h.2.set a e)[r]? = _
  rw [List.getElem?_set, if_neg hra]
  exact hr
theorem set_at {h : VH} {a : Nat} {e e0 : VE} (ha : h.2[a]? = some e0) : ((h.1, h.2.set a e) : VH).2[a]? = some e := by
  show (h.2.set a e)[a]? = _
  rw [List.getElem?_set, if_pos rfl, if_pos (List.getElem?_eq_some_iff.mp ha).1]
theorem vin_of {n : Nat} {i : Int32} (hn : n < 2 ^ 31) (h1 : ¬ i < 0) (h2 : ¬ nI n ≤ i) : vp_in i n := by
  rcases pk_ix i hn with h | h | ⟨j, hj, rfl⟩
  · exact absurd h h1
  · exact absurd h h2
  · exact vp_in_nI hj hn
section RW
variable {K : GK} {h : VH} {r a n : Nat} {f : Nat → Int32}

theorem sp_X3_at0 (hr : h.2[r]? = some (.inr (3, [.ref a]))) (ha : h.2[a]? = some (.inl (0, n, .inl f))) (hn : n < 2 ^ 31) (i : Int32) : Sp K MX3_at 2 0 0 [.ref r, .int i] h (fun v u => v = some (.int (rat f n i)) ∧ u = h) noX := by
  refine Sp_of (by decide) (Nat.le_of_ble_eq_true rfl) ?_
  refine G_iload_n dX3_at_0 rfl ?_
  refine G_if_lt (tgt := 22) dX3_at_1 (by decide) (fun c_1 => ?_) (fun c_1 => ?_)
  · refine G_iconst (v := 0) dX3_at_22 (by decide) ?_
    exact G_iret dX3_at_23 rfl rfl ⟨Nat.le_refl 0, Nat.le_refl 0⟩ ⟨by first | (rw [rat, if_neg c_1, if_neg c_10]) | (rw [rat, if_pos c_1]) | (rw [rat, if_neg c_1, if_pos c_10]), rfl⟩
  · refine G_iload_n dX3_at_4 rfl ?_
    refine G_aload_n dX3_at_5 rfl ?_
    refine G_get (k := 0) dX3_at_6 hr rfl wfl_X3_13 (by decide) rfl ?_
    refine G_alen (t := 0) dX3_at_9 ha rfl ?_
    refine G_icmp_ge (tgt := 22) dX3_at_10 (by decide) (fun c_10 => ?_) (fun c_10 => ?_)
    · refine G_iconst (v := 0) dX3_at_22 (by decide) ?_
      exact G_iret dX3_at_23 rfl rfl ⟨Nat.le_refl 0, Nat.le_refl 0⟩ ⟨by first | (rw [rat, if_neg c_1, if_neg c_10]) | (rw [rat, if_pos c_1]) | (rw [rat, if_neg c_1, if_pos c_10]), rfl⟩
    · refine G_aload_n dX3_at_13 rfl ?_
      refine G_get (k := 0) dX3_at_14 hr rfl wfl_X3_13 (by decide) rfl ?_
      refine G_iload_n dX3_at_17 rfl ?_
      refine G_iald dX3_at_18 ha (vin_of hn c_1 c_10) ?_
      refine G_goto (tgt := 23) dX3_at_19 (by decide) ?_
      exact G_iret dX3_at_23 rfl rfl ⟨Nat.le_refl 0, Nat.le_refl 0⟩ ⟨by first | (rw [rat, if_neg c_1, if_neg c_10]) | (rw [rat, if_pos c_1]) | (rw [rat, if_neg c_1, if_pos c_10]), rfl⟩
theorem sp_X3_put0 (hr : h.2[r]? = some (.inr (3, [.ref a]))) (ha : h.2[a]? = some (.inl (0, n, .inl f))) (hn : n < 2 ^ 31) (i x : Int32) : Sp K MX3_put 2 0 0 [.ref r, .int i, .int x] h (fun v u => v = none ∧ u = (h.1, h.2.set a (.inl (0, n, .inl (rput f n i x))))) noX := by
  refine Sp_of (by decide) (Nat.le_of_ble_eq_true rfl) ?_
  refine G_iload_n dX3_put_0 rfl ?_
  refine G_if_lt (tgt := 20) dX3_put_1 (by decide) (fun c_1 => ?_) (fun c_1 => ?_)
  · exact G_vret dX3_put_20 rfl ⟨Nat.le_refl 0, Nat.le_refl 0⟩ ⟨rfl, by first | (rw [rput, if_neg c_1, if_neg c_10]) | (rw [rput, if_pos c_1]; exact (set_same ha).symm) | (rw [rput, if_neg c_1, if_pos c_10]; exact (set_same ha).symm)⟩
  · refine G_iload_n dX3_put_4 rfl ?_
    refine G_aload_n dX3_put_5 rfl ?_
    refine G_get (k := 0) dX3_put_6 hr rfl wfl_X3_13 (by decide) rfl ?_
    refine G_alen (t := 0) dX3_put_9 ha rfl ?_
    refine G_icmp_ge (tgt := 20) dX3_put_10 (by decide) (fun c_10 => ?_) (fun c_10 => ?_)
    · exact G_vret dX3_put_20 rfl ⟨Nat.le_refl 0, Nat.le_refl 0⟩ ⟨rfl, by first | (rw [rput, if_neg c_1, if_neg c_10]) | (rw [rput, if_pos c_1]; exact (set_same ha).symm) | (rw [rput, if_neg c_1, if_pos c_10]; exact (set_same ha).symm)⟩
    · refine G_aload_n dX3_put_13 rfl ?_
      refine G_get (k := 0) dX3_put_14 hr rfl wfl_X3_13 (by decide) rfl ?_
      refine G_iload_n dX3_put_17 rfl ?_
      refine G_iload_n dX3_put_18 rfl ?_
      refine G_iast dX3_put_19 ha (vin_of hn c_1 c_10) ?_
      exact G_vret dX3_put_20 rfl ⟨Nat.le_refl 0, Nat.le_refl 0⟩ ⟨rfl, by first | (rw [rput, if_neg c_1, if_neg c_10]) | (rw [rput, if_pos c_1]; exact (set_same ha).symm) | (rw [rput, if_neg c_1, if_pos c_10]; exact (set_same ha).symm)⟩
theorem sp_X3_addTo0 (hr : h.2[r]? = some (.inr (3, [.ref a]))) (ha : h.2[a]? = some (.inl (0, n, .inl f))) (hn : n < 2 ^ 31) (i x : Int32) : Sp K MX3_addTo 2 0 0 [.ref r, .int i, .int x] h (fun v u => v = none ∧ u = (h.1, h.2.set a (.inl (0, n, .inl (rput f n i (f i.toNatClampNeg + x)))))) noX := by
  refine Sp_of (by decide) (Nat.le_of_ble_eq_true rfl) ?_
  refine G_iload_n dX3_addTo_0 rfl ?_
  refine G_if_lt (tgt := 23) dX3_addTo_1 (by decide) (fun c_1 => ?_) (fun c_1 => ?_)
  · exact G_vret dX3_addTo_23 rfl ⟨Nat.le_refl 0, Nat.le_refl 0⟩ ⟨rfl, by first | (rw [rput, if_neg c_1, if_neg c_10]) | (rw [rput, if_pos c_1]; exact (set_same ha).symm) | (rw [rput, if_neg c_1, if_pos c_10]; exact (set_same ha).symm)⟩
  · refine G_iload_n dX3_addTo_4 rfl ?_
    refine G_aload_n dX3_addTo_5 rfl ?_
    refine G_get (k := 0) dX3_addTo_6 hr rfl wfl_X3_13 (by decide) rfl ?_
    refine G_alen (t := 0) dX3_addTo_9 ha rfl ?_
    refine G_icmp_ge (tgt := 23) dX3_addTo_10 (by decide) (fun c_10 => ?_) (fun c_10 => ?_)
    · exact G_vret dX3_addTo_23 rfl ⟨Nat.le_refl 0, Nat.le_refl 0⟩ ⟨rfl, by first | (rw [rput, if_neg c_1, if_neg c_10]) | (rw [rput, if_pos c_1]; exact (set_same ha).symm) | (rw [rput, if_neg c_1, if_pos c_10]; exact (set_same ha).symm)⟩
    · refine G_aload_n dX3_addTo_13 rfl ?_
      refine G_get (k := 0) dX3_addTo_14 hr rfl wfl_X3_13 (by decide) rfl ?_
      refine G_iload_n dX3_addTo_17 rfl ?_
      refine G_dup2 dX3_addTo_18 rfl rfl ?_
      refine G_iald dX3_addTo_19 ha (vin_of hn c_1 c_10) ?_
      refine G_iload_n dX3_addTo_20 rfl ?_
      refine G_iadd dX3_addTo_21 ?_
      refine G_iast dX3_addTo_22 ha (vin_of hn c_1 c_10) ?_
      exact G_vret dX3_addTo_23 rfl ⟨Nat.le_refl 0, Nat.le_refl 0⟩ ⟨rfl, by first | (rw [rput, if_neg c_1, if_neg c_10]) | (rw [rput, if_pos c_1]; exact (set_same ha).symm) | (rw [rput, if_neg c_1, if_pos c_10]; exact (set_same ha).symm)⟩
theorem rfil_step {f : Nat → Int32} {n j : Nat} {x : Int32} (hj : j < n) : rfil (upd f j x) n x (j + 1) = rfil f n x j := by
  funext k
  unfold rfil upd
  by_cases h1 : k = j
  · subst h1
    rw [if_neg (by omega), if_pos rfl, if_pos ⟨Nat.le_refl _, hj⟩]
  · by_cases h2 : j ≤ k ∧ k < n
    · rw [if_pos (by omega), if_pos h2]
    · rw [if_neg (by omega), if_neg h1, if_neg h2]
theorem rfil_end {f : Nat → Int32} {n j : Nat} {x : Int32} (hj : n ≤ j) : rfil f n x j = f := by
  funext k
  unfold rfil
  rw [if_neg (by omega)]
theorem lp_X3_fill (x : Int32) (P : Option Value → VH → Prop) (hra : a ≠ r) (hn : n < 2 ^ 31) : ∀ (m j : Nat) (h : VH) (f : Nat → Int32), n - j = m → j ≤ n → h.2[r]? = some (.inr (3, [.ref a])) → h.2[a]? = some (.inl (0, n, .inl f)) → P none (h.1, h.2.set a (.inl (0, n, .inl (rfil f n x j)))) →
    G K MX3_fill 2 0 0 0 0 2 [(2, .int (nI j)), (0, .ref r), (1, .int x)] [] h (QcP K P) (XcP K noX) := by
  intro m
  induction m with
  | zero =>
    intro j h f hm hjn hr ha hp
    refine G_iload_n dX3_fill_2 rfl ?_
    refine G_aload_n dX3_fill_3 rfl ?_
    refine G_get (k := 0) dX3_fill_4 hr rfl wfl_X3_13 (by decide) rfl ?_
    refine G_alen (t := 0) dX3_fill_7 ha rfl ?_
    refine G_icmp_ge (tgt := 24) dX3_fill_8 (by decide) (fun c_8 => ?_) (fun c_8 => ?_)
    · exact G_vret dX3_fill_24 rfl ⟨Nat.le_refl 0, Nat.le_refl 0⟩ (by rw [rfil_end (by omega)] at hp; rw [set_same ha] at hp; exact hp)
    · exact absurd (nI_le (show n ≤ j by omega) (show j < 2 ^ 31 by omega)) c_8
  | succ m ih =>
    intro j h f hm hjn hr ha hp
    have hj : j < n := by omega
    refine G_iload_n dX3_fill_2 rfl ?_
    refine G_aload_n dX3_fill_3 rfl ?_
    refine G_get (k := 0) dX3_fill_4 hr rfl wfl_X3_13 (by decide) rfl ?_
    refine G_alen (t := 0) dX3_fill_7 ha rfl ?_
    refine G_icmp_ge (tgt := 24) dX3_fill_8 (by decide) (fun c_8 => ?_) (fun c_8 => ?_)
    · exact absurd c_8 (nI_ge hj hn)
    · refine G_aload_n dX3_fill_11 rfl ?_
      refine G_get (k := 0) dX3_fill_12 hr rfl wfl_X3_13 (by decide) rfl ?_
      refine G_iload_n dX3_fill_15 rfl ?_
      refine G_iload_n dX3_fill_16 rfl ?_
      refine G_iast dX3_fill_17 ha (vp_in_nI hj hn) ?_
      refine GS_iinc (v := 1) (L' := [(2, _), (0, _), (1, _)]) dX3_fill_18 rfl (by decide) (by decide) rfl ?_
      refine G_goto (tgt := 2) dX3_fill_21 (by decide) ?_
      refine G_sub [0, 1, 2] rfl ?_
      rw [nI_clamp (show j < 2 ^ 31 by omega)]
      rw [nI_1 j]
      refine ih (j + 1) _ _ (by omega) (by omega) (set_ne hr hra) (set_at ha) ?_
      show P none (h.1, (h.2.set a _).set a _)
      rw [List.set_set, rfil_step hj]
      exact hp
theorem sp_X3_fill0 (hr : h.2[r]? = some (.inr (3, [.ref a]))) (ha : h.2[a]? = some (.inl (0, n, .inl f))) (hn : n < 2 ^ 31) (hra : a ≠ r) (x : Int32) : Sp K MX3_fill 2 0 0 [.ref r, .int x] h (fun v u => v = none ∧ u = (h.1, h.2.set a (.inl (0, n, .inl (rfil f n x 0))))) noX := by
  refine Sp_of (by decide) (Nat.le_of_ble_eq_true rfl) ?_
  refine G_iconst (v := 0) dX3_fill_0 (by decide) ?_
  refine GS_istore_n (L' := [(2, _), (0, _), (1, _)]) dX3_fill_1 (by decide) rfl ?_
  refine G_sub [0, 1, 2] rfl ?_
  exact lp_X3_fill x _ hra hn _ 0 h f rfl (Nat.zero_le n) hr ha ⟨rfl, rfl⟩
end RW
